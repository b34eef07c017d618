/-! A NODE IS LEFT, in the class -/
theorem lg_9 {l : List pg_N} {NN i : Nat} (hG : lg_G l NN) (hi : i < l.length) (hk : rl_k l i = 9) : i + 3 < l.length ∧ rl_z l i = 4 := by
  obtain ⟨z1, z2, z3⟩ := lg_cl hG hi
  have h := lg_S hG hi
  rw [hk] at h
  obtain ⟨a, b, e, ha, hb⟩ : ∃ a b, (rl_c l i).map (rl_k l) = [a, b, 8] ∧ sh_K a ∧ sh_K b := h
  obtain ⟨a1, a2, a3, a4, a5, a6, a7⟩ := rl_rwc z1 z3 e
  have q1 : rl_z l (i + 1) = 1 := lg_leaf hG (by omega) (by unfold sh_K at ha; omega)
  rw [q1] at a3 a4 a5 a6 a7
  obtain ⟨b1, b2, b3, b4, b5, b6, b7⟩ := rl_rwc z1 a7 a4
  have q2 : rl_z l (i + 1 + 1) = 1 := lg_leaf hG (by omega) (by unfold sh_K at hb; omega)
  rw [q2] at b3 b4 b5 b6 b7
  obtain ⟨c1, c2, c3, c4, c5, c6, c7⟩ := rl_rwc z1 b7 b4
  have q3 : rl_z l (i + 1 + 1 + 1) = 1 := lg_leaf hG (by omega) (by omega)
  rw [q3] at c4 c5 c7
  have := rl_rw0 z1 c7 c4 c5
  omega
theorem lg_sec {l : List pg_N} {NN i : Nat} (hG : lg_G l NN) (hi : i < l.length) (h0r : rl_k l 0 = 0) (hk : rl_k l i = 5) : 0 < i ∧ rl_par l i < i ∧ (rl_up l i).head? = some (rl_par l i) ∧ i ∈ rl_c l (rl_par l i) ∧ rl_k l (rl_par l i) = 4 ∧ ∃ g, g ≤ 2 ∧ rl_v l (rl_par l i) = nI g := by
  have i0 : 0 < i := by
    rcases Nat.eq_zero_or_pos i with w | w
    · rw [w] at hk; omega
    · exact w
  obtain ⟨p1, p2, p3⟩ := lg_par hG hi i0
  have kp := (lg_V hG (show rl_par l i < l.length by omega)).1
  have hR := lg_Rp hG hi i0
  rw [hk] at hR
  have k4 : rl_k l (rl_par l i) = 4 := sh_k5 _ (by omega) 5 (by decide) hR rfl
  exact ⟨i0, p1, p3, p2, k4, (lg_V hG (show rl_par l i < l.length by omega)).2.2.1 (Or.inl k4)⟩
theorem cr148x {d : Nat} {l : List pg_N} {NN nx : Nat} {σ0 σ : pm_S} {A : rl_A} {Q : Option Value → pm_S → Prop} {i : Nat} (hG : lg_G l NN) (h : cr_I l NN σ0 σ nx A) (hi : i < l.length) (hn : i < nx) (h0r : rl_k l 0 = 0) (cx : cx_L l A i) (hk : rl_k l i = 5) (hQ : ∀ σ' A', cr_I l NN σ0 σ' nx A' → ((rl_decl l A i).1 = 0 → A' = (rl_decl l A i).2) → Q (some (.int (nI (rl_decl l A i).1))) σ') : pm_call pm_Y0 (d + 5) 148 [.ref 7, .int (nI i)] σ Q := by
  obtain ⟨hp, hB, _, _, _, _, x5, _⟩ := cx
  obtain ⟨m, hpl, y, cs, D⟩ := lg_5 hG hi hk
  obtain ⟨y1, y2, y3, y4, y5, y6⟩ := x5 hk m hpl y cs D
  obtain ⟨i0, p1, p3, _, _, gg, gg1, gg2⟩ := lg_sec hG hi h0r hk
  rw [gg2, nI_clamp (by omega)] at y3
  obtain ⟨B, T⟩ := A
  cases B with
  | nil => exact absurd rfl hB
  | cons yb r => exact cr148 hG h D y1 y2 y3 (fun z => ⟨(lg_9 hG D.2.2.2.2.2.1 z).1, y4 z⟩) y5 hp y6 hi hn p3 rfl (by omega) gg2 gg1 hQ
theorem cr144 {d : Nat} {l : List pg_N} {NN nx : Nat} {σ0 σ : pm_S} {A : rl_A} {Q : Option Value → pm_S → Prop} {i : Nat} (hG : lg_G l NN) (h : cr_I l NN σ0 σ nx A) (hi : i < l.length) (hn : i < nx) (h0r : rl_k l 0 = 0) (cx : cx_L l A i) (hk : rl_k l i ≠ 0) (hQ : ∀ σ' A', cr_I l NN σ0 σ' nx A' → ((rl_out l A i).1 = 0 → A' = (rl_out l A i).2) → Q (some (.int (nI (rl_out l A i).1))) σ') : pm_call pm_Y0 (d + 6) 144 [.ref 7, .int (nI i)] σ Q := by
  have cx' := cx
  obtain ⟨hp, hB, x1, x2, x3, x4, x5, x6⟩ := cx
  have kl := (lg_V hG hi).1
  have i0 : 0 < i := by
    rcases Nat.eq_zero_or_pos i with w | w
    · rw [w] at hk; exact absurd h0r hk
    · exact w
  obtain ⟨p1, p2, p3⟩ := lg_par hG hi i0
  have kp := (lg_V hG (show rl_par l i < l.length by omega)).1
  have hR := lg_Rp hG hi i0
  have hlen := rl_len hB
  have e9 : 8 + A.1.length = 9 + (A.1.length - 1) := by omega
  have hnin : rl_nin (rl_cur A) ≤ 4128 := by
    have h1 : rl_nin (rl_cur A) ≤ (rl_cur A).2.2.2.2.length := List.length_filter_le _ _
    have h2 := h.2.2.2.2.2.1.1
    have h3 : (rl_cur A).2.2.2.2.length ≤ (cv_L A.1).length := by
      obtain ⟨B, T⟩ := A
      cases B with
      | nil => exact absurd rfl hB
      | cons y r =>
        show y.2.2.2.2.length ≤ (cv_L r ++ y.2.2.2.2.reverse.map _).length
        rw [List.length_append, List.length_map, List.length_reverse]
        omega
    omega
  have enin := nI_toInt (n := rl_nin (rl_cur A)) (by omega)
  refine wq_m m144 (Nat.le_of_ble_eq_true rfl) (by decide) rfl ?_
  refine wq_l 1 d144_0 rfl rfl rfl rfl ?_
  refine wq_gr (ci := 7) (j := 0) (q := 3) 4 d144_1 rfl rfl rfl rfl ?_
  refine wq_l 5 d144_4 rfl rfl rfl rfl ?_
  refine wq_v 8 [_] d144_5 rfl rfl m65 rfl rfl (Nat.le_of_ble_eq_true rfl) rfl (ck65 (cr_S h) (by omega) ?_)
  refine wq_s 9 d144_8 rfl rfl (Nat.le_of_ble_eq_true rfl) rfl rfl ?_
  refine wq_l 10 d144_9 rfl rfl rfl rfl ?_
  refine wq_tw [(0, 68), (1, 73), (2, 171), (3, 171), (4, 99), (5, 105), (6, 111), (7, 117), (8, 123), (9, 141), (10, 147)] 171 d144_10 (by decide) (List.forall_mem_cons.mpr ⟨fun e10 => ?_, List.forall_mem_cons.mpr ⟨fun e10 => ?_, List.forall_mem_cons.mpr ⟨fun e10 => ?_, List.forall_mem_cons.mpr ⟨fun e10 => ?_, List.forall_mem_cons.mpr ⟨fun e10 => ?_, List.forall_mem_cons.mpr ⟨fun e10 => ?_, List.forall_mem_cons.mpr ⟨fun e10 => ?_, List.forall_mem_cons.mpr ⟨fun e10 => ?_, List.forall_mem_cons.mpr ⟨fun e10 => ?_, List.forall_mem_cons.mpr ⟨fun e10 => ?_, List.forall_mem_cons.mpr ⟨fun e10 => ?_, fun _ h => absurd h List.not_mem_nil⟩⟩⟩⟩⟩⟩⟩⟩⟩⟩⟩) (fun e10 => ?_)
  · -- case 0
    exact absurd (hp_inj (by omega) (by decide) e10) hk
  · -- case 1
    have e10 : rl_k l i = 1 := hp_inj (by omega) (by decide) e10
    rw [rl_o1 e10] at hQ
    rw [e10] at hR
    refine wq_l 74 d144_73 rfl rfl rfl rfl ?_
    refine wq_gr (ci := 7) (j := 2) (q := 5) 77 d144_74 rfl rfl rfl rfl ?_
    refine wq_l 78 d144_77 rfl rfl rfl rfl ?_
    refine wq_gr (ci := 7) (j := 2) (q := 5) 81 d144_78 rfl rfl rfl rfl ?_
    refine wq_v 84 [] d144_81 rfl rfl m116 rfl rfl (Nat.le_of_ble_eq_true rfl) rfl (cr116 h hB ?_)
    rw [e9]
    refine wq_v 87 [_] d144_84 rfl rfl m120 rfl rfl (Nat.le_of_ble_eq_true rfl) rfl (cb120 h.2.2.2.2.1 (rl_blkh hB) ?_)
    refine wq_k 89 8 d144_87 (by decide) rfl ?_
    refine wq_b 97 92 d144_89 rfl (by decide) rfl (fun c89 => ?_) (fun c89 => ?_)
    · -- pc 97
      refine wq_k 98 0 d144_97 (by decide) rfl ?_
      refine wq_ri d144_98 (rfl) ?_
      rw [if_neg (by rw [i_le] at c89; have c89 : (nI (rl_nin (rl_cur A))).toInt ≤ (8 : Int) := c89; rw [enin] at c89; omega)] at hQ
      exact hQ _ _ h (fun _ => rfl)
    · -- pc 92
      refine wq_k 94 44 d144_92 (by decide) rfl ?_
      refine wq_g 98 d144_94 (by decide) ?_
      refine wq_ri d144_98 (rfl) ?_
      rw [if_pos (by rw [i_le] at c89; have c89 : ¬ (nI (rl_nin (rl_cur A))).toInt ≤ (8 : Int) := c89; rw [enin] at c89; omega)] at hQ
      exact hQ _ _ h (fun _ => rfl)
  · -- case 2
    have e10 : rl_k l i = 2 := hp_inj (by omega) (by decide) e10
    have ks : ¬ 30 ≤ rl_k l i := by omega
    have ek := nI_toInt (n := rl_k l i) (by omega)
    refine wq_l 172 d144_171 rfl rfl rfl rfl ?_
    refine wq_k 174 30 d144_172 (by decide) rfl ?_
    refine wq_b 188 177 d144_174 rfl (by decide) rfl (fun c174 => ?_) (fun c174 => absurd (by rw [i_lt, ek]; show (_ : Int) < 30; omega) c174)
    refine wq_l 189 d144_188 rfl rfl rfl rfl ?_
    refine wq_gr (ci := 7) (j := 5) (q := 9) 192 d144_189 rfl rfl rfl rfl ?_
    refine wq_l 193 d144_192 rfl rfl rfl rfl ?_
    refine wq_v 196 [_] d144_193 rfl rfl m180 rfl rfl (Nat.le_of_ble_eq_true rfl) rfl (cr180 hG h hi hn h0r cx' (by omega) (fun σ193 A193 h193 g193 => ?_))
    refine wq_ri d144_196 (rfl) ?_
    exact hQ _ _ h193 g193
  · -- case 3
    have e10 : rl_k l i = 3 := hp_inj (by omega) (by decide) e10
    have ks : ¬ 30 ≤ rl_k l i := by omega
    have ek := nI_toInt (n := rl_k l i) (by omega)
    refine wq_l 172 d144_171 rfl rfl rfl rfl ?_
    refine wq_k 174 30 d144_172 (by decide) rfl ?_
    refine wq_b 188 177 d144_174 rfl (by decide) rfl (fun c174 => ?_) (fun c174 => absurd (by rw [i_lt, ek]; show (_ : Int) < 30; omega) c174)
    refine wq_l 189 d144_188 rfl rfl rfl rfl ?_
    refine wq_gr (ci := 7) (j := 5) (q := 9) 192 d144_189 rfl rfl rfl rfl ?_
    refine wq_l 193 d144_192 rfl rfl rfl rfl ?_
    refine wq_v 196 [_] d144_193 rfl rfl m180 rfl rfl (Nat.le_of_ble_eq_true rfl) rfl (cr180 hG h hi hn h0r cx' (by omega) (fun σ193 A193 h193 g193 => ?_))
    refine wq_ri d144_196 (rfl) ?_
    exact hQ _ _ h193 g193
  · -- case 4
    have e10 : rl_k l i = 4 := hp_inj (by omega) (by decide) e10
    rw [rl_o4 e10] at hQ
    rw [e10] at hR
    refine wq_l 100 d144_99 rfl rfl rfl rfl ?_
    refine wq_l 101 d144_100 rfl rfl rfl rfl ?_
    refine wq_v 104 [_] d144_101 rfl rfl m146 rfl rfl (Nat.le_of_ble_eq_true rfl) rfl (cr146 h hp hB hi (fun σ101 A101 h101 g101 => ?_))
    refine wq_ri d144_104 (rfl) ?_
    exact hQ _ _ h101 g101
  · -- case 5
    have e10 : rl_k l i = 5 := hp_inj (by omega) (by decide) e10
    rw [rl_o5 e10] at hQ
    rw [e10] at hR
    refine wq_l 106 d144_105 rfl rfl rfl rfl ?_
    refine wq_l 107 d144_106 rfl rfl rfl rfl ?_
    refine wq_v 110 [_] d144_107 rfl rfl m148 rfl rfl (Nat.le_of_ble_eq_true rfl) rfl (cr148x hG h hi hn h0r cx' e10 (fun σ107 A107 h107 g107 => ?_))
    refine wq_ri d144_110 (rfl) ?_
    exact hQ _ _ h107 g107
  · -- case 6
    have e10 : rl_k l i = 6 := hp_inj (by omega) (by decide) e10
    rw [rl_o6 e10] at hQ
    rw [e10] at hR
    have hx := lg_nm hG hi (by rw [e10]; rfl)
    have h5 : rl_k l (rl_par l i) = 5 → 0 < rl_par l i ∧ ∃ g, g ≤ 2 ∧ rl_v l (rl_par l (rl_par l i)) = nI g := fun z => by
      obtain ⟨q1, _, _, _, _, q2⟩ := lg_sec hG (show rl_par l i < l.length by omega) h0r z
      exact ⟨q1, q2⟩
    refine wq_l 112 d144_111 rfl rfl rfl rfl ?_
    refine wq_l 113 d144_112 rfl rfl rfl rfl ?_
    refine wq_v 116 [_] d144_113 rfl rfl m158 rfl rfl (Nat.le_of_ble_eq_true rfl) rfl (cr158 hG h hp hB (x3 e10) (x2 e10) hi hn p3 p1 h5 hx (fun σ113 A113 h113 g113 => ?_))
    refine wq_ri d144_116 (rfl) ?_
    exact hQ _ _ h113 g113
  · -- case 7
    have e10 : rl_k l i = 7 := hp_inj (by omega) (by decide) e10
    rw [rl_o7 e10] at hQ
    rw [e10] at hR
    obtain ⟨v0, vs, w1, w2, w3⟩ := x4 e10
    refine wq_l 118 d144_117 rfl rfl rfl rfl ?_
    refine wq_l 119 d144_118 rfl rfl rfl rfl ?_
    refine wq_v 122 [_] d144_119 rfl rfl m160 rfl rfl (Nat.le_of_ble_eq_true rfl) rfl (cr160 hG h hp hB hi hn e10 p3 p1 w1 w2 w3 (fun σ119 A119 h119 g119 => ?_))
    refine wq_ri d144_122 (rfl) ?_
    exact hQ _ _ h119 g119
  · -- case 8
    have e10 : rl_k l i = 8 := hp_inj (by omega) (by decide) e10
    rw [rl_o8 e10] at hQ
    rw [e10] at hR
    refine wq_l 124 d144_123 rfl rfl rfl rfl ?_
    refine wq_gr (ci := 7) (j := 0) (q := 3) 127 d144_124 rfl rfl rfl rfl ?_
    refine wq_l 128 d144_127 rfl rfl rfl rfl ?_
    refine wq_l 129 d144_128 rfl rfl rfl rfl ?_
    refine wq_gr (ci := 7) (j := 0) (q := 3) 132 d144_129 rfl rfl rfl rfl ?_
    refine wq_l 133 d144_132 rfl rfl rfl rfl ?_
    refine wq_v 136 [_] d144_133 rfl rfl m66 rfl rfl (Nat.le_of_ble_eq_true rfl) rfl (ck66 (cr_S h) (by omega) ?_)
    refine wq_v 139 [_, _] d144_136 rfl rfl m70 rfl rfl (Nat.le_of_ble_eq_true rfl) rfl (ck70 h (by omega) (fun σ136 h136 => ?_))
    refine wq_k 140 0 d144_139 (by decide) rfl ?_
    refine wq_ri d144_140 (rfl) ?_
    exact hQ _ _ h136 (fun _ => rfl)
  · -- case 9
    have e10 : rl_k l i = 9 := hp_inj (by omega) (by decide) e10
    rw [rl_o9 e10] at hQ
    rw [e10] at hR
    have h93 := (lg_9 hG hi e10).1
    refine wq_l 142 d144_141 rfl rfl rfl rfl ?_
    refine wq_l 143 d144_142 rfl rfl rfl rfl ?_
    refine wq_v 146 [_] d144_143 rfl rfl m161 rfl rfl (Nat.le_of_ble_eq_true rfl) rfl (cr161 hG h hp hB (by omega) (fun σ143 A143 h143 g143 => ?_))
    refine wq_ri d144_146 (rfl) ?_
    exact hQ _ _ h143 g143
  · -- case 10
    have e10 : rl_k l i = 10 := hp_inj (by omega) (by decide) e10
    rw [rl_o10 e10] at hQ
    rw [e10] at hR
    have hx := lg_nm hG hi (by rw [e10]; rfl)
    refine wq_l 148 d144_147 rfl rfl rfl rfl ?_
    refine wq_k 149 1 d144_148 (by decide) rfl ?_
    refine wq_v 152 [_] d144_149 rfl rfl m147 rfl rfl (Nat.le_of_ble_eq_true rfl) rfl (cr147 (k := 1) (by decide) hp h hB ?_)
    refine wq_b 164 155 d144_152 rfl (by decide) rfl (fun c152 => ?_) (fun c152 => ?_)
    · -- pc 164
      have f152 := b2n c152
      refine wq_k 166 17 d144_164 (by decide) rfl ?_
      refine wq_g 170 d144_166 (by decide) ?_
      refine wq_ri d144_170 (rfl) ?_
      rw [if_pos (Or.inl (of_decide_eq_true f152))] at hQ
      exact hQ _ _ h (fun _ => rfl)
    · -- pc 155
      have f152 := b2y c152
      refine wq_l 156 d144_155 rfl rfl rfl rfl ?_
      refine wq_l 157 d144_156 rfl rfl rfl rfl ?_
      refine wq_v 160 [_] d144_157 rfl rfl m154 rfl rfl (Nat.le_of_ble_eq_true rfl) rfl (cr154 h (pv_hf hp hB) (pv_kd hp) hB hi hx ?_)
      refine wq_k 161 (-1) d144_160 (by decide) rfl ?_
      refine wq_b 169 164 d144_161 rfl (by decide) rfl (fun c161 => ?_) (fun c161 => ?_)
      · -- pc 169
        refine wq_k 170 0 d144_169 (by decide) rfl ?_
        refine wq_ri d144_170 (rfl) ?_
        rw [if_neg (fun z => z.elim (fun w => of_decide_eq_false f152 w) (fun w => c161 (by rw [w]; rfl)))] at hQ
        exact hQ _ _ h (fun _ => rfl)
      · -- pc 164
        refine wq_k 166 17 d144_164 (by decide) rfl ?_
        refine wq_g 170 d144_166 (by decide) ?_
        refine wq_ri d144_170 (rfl) ?_
        rw [if_pos (Or.inr ?_)] at hQ
        · exact hQ _ _ h (fun _ => rfl)
        · have z161 := Classical.not_not.mp c161
          cases ei : rl_inst A.1 (rl_v l i) with
          | none => rfl
          | some q =>
            rw [ei] at z161
            have := h.2.2.2.2.1.1
            have ql : q < 2 ^ 30 := by rcases rl_instl ei with w | ⟨_, _, _, _, _, w⟩ <;> omega
            exact absurd z161 (hp_ne (by omega))
  · -- default
    have w10_0 := e10 (0, 68) (by decide)
    have w10_1 := e10 (1, 73) (by decide)
    have w10_2 := e10 (2, 171) (by decide)
    have w10_3 := e10 (3, 171) (by decide)
    have w10_4 := e10 (4, 99) (by decide)
    have w10_5 := e10 (5, 105) (by decide)
    have w10_6 := e10 (6, 111) (by decide)
    have w10_7 := e10 (7, 117) (by decide)
    have w10_8 := e10 (8, 123) (by decide)
    have w10_9 := e10 (9, 141) (by decide)
    have w10_10 := e10 (10, 147) (by decide)
    have ek := nI_toInt (n := rl_k l i) (by omega)
    have nk : ∀ k : Nat, (rl_k l i = k → nI (rl_k l i) = nI k) := fun k z => by rw [z]
    have v0 : ¬ rl_k l i = 0 := fun z => w10_0 (nk 0 z)
    have v1 : ¬ rl_k l i = 1 := fun z => w10_1 (nk 1 z)
    have v2 : ¬ rl_k l i = 2 := fun z => w10_2 (nk 2 z)
    have v3 : ¬ rl_k l i = 3 := fun z => w10_3 (nk 3 z)
    have v4 : ¬ rl_k l i = 4 := fun z => w10_4 (nk 4 z)
    have v5 : ¬ rl_k l i = 5 := fun z => w10_5 (nk 5 z)
    have v6 : ¬ rl_k l i = 6 := fun z => w10_6 (nk 6 z)
    have v7 : ¬ rl_k l i = 7 := fun z => w10_7 (nk 7 z)
    have v8 : ¬ rl_k l i = 8 := fun z => w10_8 (nk 8 z)
    have v9 : ¬ rl_k l i = 9 := fun z => w10_9 (nk 9 z)
    have v10 : ¬ rl_k l i = 10 := fun z => w10_10 (nk 10 z)
    refine wq_l 172 d144_171 rfl rfl rfl rfl ?_
    refine wq_k 174 30 d144_172 (by decide) rfl ?_
    refine wq_b 188 177 d144_174 rfl (by decide) rfl (fun c174 => ?_) (fun c174 => ?_)
    · -- pc 188
      refine wq_l 189 d144_188 rfl rfl rfl rfl ?_
      refine wq_gr (ci := 7) (j := 5) (q := 9) 192 d144_189 rfl rfl rfl rfl ?_
      refine wq_l 193 d144_192 rfl rfl rfl rfl ?_
      refine wq_v 196 [_] d144_193 rfl rfl m180 rfl rfl (Nat.le_of_ble_eq_true rfl) rfl (cr180 hG h hi hn h0r cx' (by clear x1 x2 x3 x4 x5 x6 hQ cx'; rw [i_lt, ek] at c174; have c174 : (_ : Int) < 30 := c174; omega) (fun σ193 A193 h193 g193 => ?_))
      refine wq_ri d144_196 (rfl) ?_
      exact hQ _ _ h193 g193
    · -- pc 177
      refine wq_l 178 d144_177 rfl rfl rfl rfl ?_
      refine wq_gr (ci := 7) (j := 4) (q := 8) 181 d144_178 rfl rfl rfl rfl ?_
      refine wq_l 182 d144_181 rfl rfl rfl rfl ?_
      refine wq_v 185 [_] d144_182 rfl rfl m166 rfl rfl (Nat.le_of_ble_eq_true rfl) rfl (cr166 hG h hi hn cx' (by rw [i_lt, ek] at c174; have c174 : ¬ (_ : Int) < 30 := c174; omega) (fun σ182 A182 h182 g182 => ?_))
      refine wq_g 196 d144_185 (by decide) ?_
      refine wq_ri d144_196 (rfl) ?_
      exact hQ _ _ h182 g182
