/-! A DECLARATION in the reference: the whole -/
theorem lg_cnt {l : List pg_N} {i m yt : Nat} {hp cs : Bool} (D : lg_D l i m hp yt cs) : ((rl_c l i).filter (fun c => rl_k l c == 6)).length = m := by
  obtain ⟨d1, d2, d3, d4, d5, d6, d7, d8, d9⟩ := D
  rw [d9, List.filter_append, List.filter_eq_self.mpr (fun x hx => by
    obtain ⟨w1, w2⟩ := List.mem_range'_1.mp hx
    exact beq_iff_eq.mpr (d2 x (by omega) (by omega))), List.length_append, List.length_range']
  have : (List.filter (fun c => rl_k l c == 6) ((if hp = true then [i + m + 1] else []) ++ yt :: if cs = true then [yt + rl_z l yt] else [])) = [] := by
    rw [List.filter_eq_nil_iff]
    intro x hx
    have e6 : rl_k l x ≠ 6 := by
      rcases List.mem_append.mp hx with w | w
      · cases hp with
        | true =>
          rw [if_pos rfl] at w
          rw [List.mem_singleton.mp w, d3 rfl]; decide
        | false => rw [if_neg (by decide)] at w; exact absurd w List.not_mem_nil
      · rcases List.mem_cons.mp w with w | w
        · rw [w]; omega
        · cases cs with
          | true =>
            rw [if_pos rfl] at w
            rw [List.mem_singleton.mp w]
            have := d8 rfl; omega
          | false => rw [if_neg (by decide)] at w; exact absurd w List.not_mem_nil
    exact fun z => e6 (beq_iff_eq.mp z)
  rw [this]; rfl
theorem re277 {d : Nat} {l : List pg_N} {a : Nat → Nat} {R : Int32 → Int32 → Prop} {σ0 σ : pm_S} {A : rl_A} {Q : Option Value → pm_S → Prop} {NN i : Nat} (hG : lg_G l NN) (h0r : rl_k l 0 = 0) (h : rr_I l a R σ0 σ true (rl_cur A).2.2.2.1 A) (i0 : i < l.length) (hk : rl_k l i = 5) (cx : cx_L l A i) (hQ : ∀ σ', rr_F σ0 σ' → ((rl_decl l A i).1 = 0 → rr_I l a R σ0 σ' true (rl_cur (rl_decl l A i).2).2.2.2.1 (rl_decl l A i).2) → Q (some (.int (nI (rl_decl l A i).1))) σ') : pm_call pm_Y0 (d + 3) 277 [.ref 10, .int (nI (a i))] σ Q := by
  obtain ⟨hp', hB, x1, x2, x3, x4, x5, x6⟩ := cx
  obtain ⟨m, hp, yt, cs, D⟩ := lg_5 hG i0 hk
  obtain ⟨hm, hu, hus, h9, h10, hz⟩ := x5 hk m hp yt cs D
  obtain ⟨s1, s2, s3, s4, s5, part, s6, s7⟩ := lg_sec hG i0 h0r hk
  have epart : (rl_v l (rl_par l i)).toNatClampNeg = part := by rw [s7]; exact nI_clamp (by omega)
  rw [rl_decl_u D] at hQ
  obtain ⟨B, T⟩ := A
  cases B with
  | nil => exact absurd rfl hB
  | cons y r =>
  have hm : m ≤ y.2.2.2.2.length := hm
  have h : rr_I l a R σ0 σ true y.2.2.2.1 (y :: r, T) := h
  have hus : ∀ (k : Nat) (v : rl_V), k < m → y.2.2.2.2[k]? = some v → v.2.2.2.1 = part := fun k v k1 k2 => (hus k v k1 k2).trans epart
  rw [epart] at hQ
  have D' := D
  obtain ⟨d1, d2, d3, d4, d5, d6, d7, d8, d9⟩ := D
  have zi := (rl_zc hG.1 i0).2
  have zl : ∀ j, j < l.length → rl_k l j = 6 ∨ rl_k l j = 7 → rl_z l j = 1 := fun j hj q => (lg_0 hG hj (by
    have := lg_S hG hj
    rcases q with q | q <;> (rw [q] at this; exact this))).1
  have hyc : yt ∈ rl_c l i := by rw [d9]; simp
  have cm : i < yt ∧ yt < i + rl_z l i := rl_cm hyc
  have hyi : i + m < yt := by rw [d4]; cases hp <;> simp <;> omega
  have hc : ∀ j, j < m → i + 1 + j ∈ rl_c l i ∧ rl_z l (i + 1 + j) = 1 := fun j hj => ⟨by
    rw [d9]
    exact List.mem_append_left _ (List.mem_range'_1.mpr ⟨by omega, by omega⟩), zl _ (by omega) (Or.inl (d2 _ (by omega) (by omega)))⟩
  have cnt := lg_cnt D'
  have ef := (rt_f (rr_T h) hG i0).trans (if_pos (by omega))
  have bi := rt_b (rr_T h) i0
  have by' := rt_b (rr_T h) d6
  have bm := rt_b (rr_T h) (show i + 1 + m < l.length by omega)
  have km := rt_k (rr_T h) (show i + 1 + m < l.length by omega)
  have hml : m ≤ 20000 := by have := hG.2.2.2.1; omega
  have ey := rt_n (rr_T h) hG i0 hyc
  have eq' := (rt_q (rr_T h) hG i0).trans (if_neg (by omega))
  have bq := rt_b (rr_T h) (show rl_par l i < l.length by omega)
  have vq := rt_v (rr_T h) (show rl_par l i < l.length by omega) (by rw [s5]; rfl)
  have ky := rt_k (rr_T h) d6
  have sb : nI (rl_k l yt) - 8 = nI (rl_k l yt - 8) := nI_sbl (b := 8) (by omega)
  have ep := nI_toInt (n := part) (by omega)
  have esn := nI_toInt (n := rl_k l yt - 8) (by omega)
  have es0 : rl_k l yt - 8 ≠ 0 ↔ rl_k l yt ≠ 8 := by omega
  have es2 : rl_k l yt - 8 = 2 ↔ rl_k l yt = 10 := by omega
  have e6 : (if yt + rl_z l yt < i + rl_z l i then nI (a (yt + rl_z l yt)) else -1) = (if cs = true then nI (a (yt + rl_z l yt)) else -1) := by
    cases cs with
    | true => rw [if_pos rfl] at d7 ⊢; rw [if_pos (by omega)]
    | false => rw [if_neg (c := (false = true)) (by decide)] at d7 ⊢; rw [if_neg (by omega)]
  rw [e6] at ey
  have hat1 : hp = false → rl_dsp l i m hp = -1 := fun z => by rw [z]; rfl
  have hat2 : hp = true → ∃ ar o, ar < 6 ∧ o < 256 ∧ rl_dsp l i m hp = nI (256 * ar + o) := fun z => by
    obtain ⟨ar, o, o1, o2, o3, o4⟩ := lg_7 hG (show i + m + 1 < l.length by rw [z] at d4; have : yt = i + m + 2 := d4; omega) (d3 z)
    exact ⟨ar, o, o1, o2, by rw [z]; exact o4⟩
  have hat : rl_dsp l i m hp = -1 ∨ ∃ ar o, ar < 6 ∧ o < 256 ∧ rl_dsp l i m hp = nI (256 * ar + o) := by
    cases hp with
    | true => exact Or.inr (hat2 rfl)
    | false => exact Or.inl rfl
  have go : ¬ (part ≠ 0 ∧ rl_k l yt ≠ 8) → ∀ (c : Int32), pm_WP pm_Y0 (pm_call pm_Y0 (d + 2)) 10 prog_14_method_91_code (some FieldType.int) Q 128 [.ref 10, .int (nI (a i)), .int (nI m), .int c, .int (rl_dsp l i m hp), .int (nI (a yt)), .int (if cs = true then nI (a (yt + rl_z l yt)) else -1), .int (nI part), .int (nI (rl_k l yt - 8)), pm_jk, pm_jk, pm_jk] [] σ := by
    intro n43 c
    rw [if_neg n43] at hQ
    refine re277o hG h hp' hB d6 d5 h10 rfl ?_
    refine re277b (hp := hp) (cs := cs) (e := yt + rl_z l yt) (t := rl_dt l (y :: r, T) yt) h (by omega) (fun z => by unfold rv_ty; rw [if_neg z]) hat1 hat2 (fun z => by rw [z]; rfl) (fun z => ⟨by rw [z]; rfl, by rw [z, if_pos rfl] at d7; omega, d8 z⟩) (fun z => ?_) (fun z n15 => ?_) (fun n15 n18 => ?_)
    · rw [es0] at z
      rw [if_pos z] at hQ
      exact hQ σ h.2.2.1 (fun z => absurd z (Nat.succ_ne_zero _))
    · rw [es0] at n15
      rw [es2] at z
      rw [if_neg n15, if_pos z] at hQ
      exact hQ σ h.2.2.1 (fun z => absurd z (Nat.succ_ne_zero _))
    · rw [es0] at n15
      rw [es2] at n18
      rw [if_neg n15, if_neg n18] at hQ
      refine re277z hG h D' i0 hm hus h9 h10 hz hat rfl rfl (fun σ' h' => ?_)
      have uu : rl_uj (rl_dsp l i m hp) y.2.2.2.1 (rl_zz l (y :: r) yt) m = (if hp then y.2.2.2.1 else y.2.2.2.1 + m * rl_zz l (y :: r) yt) := by
        unfold rl_uj
        cases hp with
        | true =>
          obtain ⟨ar, o, o1, o2, o3⟩ := hat2 rfl
          rw [o3, if_neg (hp_ne (by omega)), if_pos rfl]
        | false => rw [if_pos (show rl_dsp l i m false = -1 from rfl), if_neg (by decide)]
      rw [uu] at h' ⊢
      have hQ : ∀ σ', rr_F σ0 σ' → _ := hQ
      by_cases q : 4096 < (if hp then y.2.2.2.1 else y.2.2.2.1 + m * rl_zz l (y :: r) yt)
      · rw [if_pos q]
        have hQ := hQ σ' h'.2.2.1
        rw [if_pos (c := (4096 < (if hp = true then (rl_cur (y :: r, T)).2.2.2.1 else (rl_cur (y :: r, T)).2.2.2.1 + m * rl_zz l (y :: r, T).1 yt))) q] at hQ
        exact hQ (fun z => absurd z (Nat.succ_ne_zero _))
      · rw [if_neg q]
        have hQ := hQ σ' h'.2.2.1
        rw [if_neg (c := (4096 < (if hp = true then (rl_cur (y :: r, T)).2.2.2.1 else (rl_cur (y :: r, T)).2.2.2.1 + m * rl_zz l (y :: r, T).1 yt))) q] at hQ
        refine hQ (fun _ => ?_)
        rw [rl_Ajm (hp := hp) (by
          cases hp with
          | true =>
            obtain ⟨ar, o, o1, o2, o3⟩ := hat2 rfl
            rw [o3]
            exact ⟨fun _ => hp_ne (by omega), fun _ => rfl⟩
          | false => exact ⟨fun z => absurd z (by decide), fun z => absurd rfl z⟩)] at h'
        exact h'
  refine wq_m m277 (Nat.le_of_ble_eq_true rfl) (by decide) rfl ?_
  refine wq_l 1 d277_0 rfl rfl rfl rfl ?_
  refine wq_l 2 d277_1 rfl rfl rfl rfl ?_
  refine wq_v 5 [_] d277_2 rfl rfl m278 rfl rfl (Nat.le_of_ble_eq_true rfl) rfl (re278 hG h i0 ?_)
  rw [cnt]
  refine wq_s 6 d277_5 rfl rfl (Nat.le_of_ble_eq_true rfl) rfl rfl ?_
  refine wq_l 7 d277_6 rfl rfl rfl rfl ?_
  refine wq_gr (ci := 10) (j := 19) (q := 52) 10 d277_7 rfl rfl rfl rfl ?_
  refine wq_l 11 d277_10 rfl rfl rfl rfl ?_
  refine wq_al 12 d277_11 rfl rfl rfl (bi) ?_
  rw [ef]
  refine wq_s 13 d277_12 rfl rfl (Nat.le_of_ble_eq_true rfl) rfl rfl ?_
  refine wq_k 14 0 d277_13 (by decide) rfl ?_
  refine wq_s 16 d277_14 rfl rfl (Nat.le_of_ble_eq_true rfl) rfl rfl ?_
  refine re277s hG h i0 hml hc (by omega) ?_ m 0 (Nat.zero_add _)
  cases hp with
  | true =>
    have y7 : yt = i + m + 2 := d4
    have k7 : rl_k l (i + 1 + m) = 7 := by rw [show i + 1 + m = i + m + 1 by omega]; exact d3 rfl
    have c7 : i + 1 + m ∈ rl_c l i := by rw [d9, show i + m + 1 = i + 1 + m by omega]; simp
    have n7 := rt_n (rr_T h) hG i0 c7
    rw [zl _ (by omega) (Or.inr k7)] at n7
    have n7 := n7.trans (if_pos (by omega))
    rw [show i + 1 + m + 1 = yt by omega] at n7
    have v7 := rt_v (rr_T h) (show i + 1 + m < l.length by omega) (by rw [k7]; rfl)
    have es7 : rl_v l (i + 1 + m) = rl_dsp l i m true := by
      show _ = rl_v l (i + m + 1)
      rw [show i + 1 + m = i + m + 1 by omega]
    rw [k7] at km
    refine wq_l 36 d277_35 rfl rfl rfl rfl ?_
    refine wq_gr (ci := 10) (j := 16) (q := 49) 39 d277_36 rfl rfl rfl rfl ?_
    refine wq_l 40 d277_39 rfl rfl rfl rfl ?_
    refine wq_al 41 d277_40 rfl rfl rfl (bm) ?_
    rw [km]
    refine wq_k 43 7 d277_41 (by decide) rfl ?_
    refine wq_b 55 46 d277_43 rfl (by decide) rfl (fun c43 => absurd c43 (fun z => z rfl)) (fun c43 => ?_)
    refine wq_l 47 d277_46 rfl rfl rfl rfl ?_
    refine wq_gr (ci := 10) (j := 18) (q := 51) 50 d277_47 rfl rfl rfl rfl ?_
    refine wq_l 51 d277_50 rfl rfl rfl rfl ?_
    refine wq_al 52 d277_51 rfl rfl rfl (bm) ?_
    rw [v7, es7]
    refine wq_g 56 d277_52 (by decide) ?_
    refine wq_s 58 d277_56 rfl rfl (Nat.le_of_ble_eq_true rfl) rfl rfl ?_
    refine wq_l 59 d277_58 rfl rfl rfl rfl ?_
    refine wq_gr (ci := 10) (j := 16) (q := 49) 62 d277_59 rfl rfl rfl rfl ?_
    refine wq_l 63 d277_62 rfl rfl rfl rfl ?_
    refine wq_al 64 d277_63 rfl rfl rfl (bm) ?_
    rw [km]
    refine wq_k 66 7 d277_64 (by decide) rfl ?_
    refine wq_b 78 69 d277_66 rfl (by decide) rfl (fun c66 => absurd c66 (fun z => z rfl)) (fun c66 => ?_)
    refine wq_l 70 d277_69 rfl rfl rfl rfl ?_
    refine wq_gr (ci := 10) (j := 21) (q := 54) 73 d277_70 rfl rfl rfl rfl ?_
    refine wq_l 74 d277_73 rfl rfl rfl rfl ?_
    refine wq_al 75 d277_74 rfl rfl rfl (bm) ?_
    rw [n7]
    refine wq_g 79 d277_75 (by decide) ?_
    refine wq_s 81 d277_79 rfl rfl (Nat.le_of_ble_eq_true rfl) rfl rfl ?_
    refine wq_l 82 d277_81 rfl rfl rfl rfl ?_
    refine wq_gr (ci := 10) (j := 21) (q := 54) 85 d277_82 rfl rfl rfl rfl ?_
    refine wq_l 87 d277_85 rfl rfl rfl rfl ?_
    refine wq_al 88 d277_87 rfl rfl rfl (by') ?_
    rw [ey]
    refine wq_s 90 d277_88 rfl rfl (Nat.le_of_ble_eq_true rfl) rfl rfl ?_
    refine wq_l 91 d277_90 rfl rfl rfl rfl ?_
    refine wq_gr (ci := 10) (j := 18) (q := 51) 94 d277_91 rfl rfl rfl rfl ?_
    refine wq_l 95 d277_94 rfl rfl rfl rfl ?_
    refine wq_gr (ci := 10) (j := 22) (q := 55) 98 d277_95 rfl rfl rfl rfl ?_
    refine wq_l 99 d277_98 rfl rfl rfl rfl ?_
    refine wq_al 100 d277_99 rfl rfl rfl (bi) ?_
    rw [eq']
    refine wq_al 101 d277_100 rfl rfl rfl (bq) ?_
    rw [vq, s7]
    refine wq_s 103 d277_101 rfl rfl (Nat.le_of_ble_eq_true rfl) rfl rfl ?_
    refine wq_l 104 d277_103 rfl rfl rfl rfl ?_
    refine wq_gr (ci := 10) (j := 16) (q := 49) 107 d277_104 rfl rfl rfl rfl ?_
    refine wq_l 109 d277_107 rfl rfl rfl rfl ?_
    refine wq_al 110 d277_109 rfl rfl rfl (by') ?_
    rw [ky]
    refine wq_k 112 8 d277_110 (by decide) rfl ?_
    refine wq_a 113 d277_112 rfl rfl ?_
    rw [sb]
    refine wq_s 115 d277_113 rfl rfl (Nat.le_of_ble_eq_true rfl) rfl rfl ?_
    refine wq_l 117 d277_115 rfl rfl rfl rfl ?_
    refine wq_b 128 120 d277_117 rfl (by decide) rfl (fun c117 => ?_) (fun c117 => ?_)
    · -- pc 128
      rw [i_le, ep] at c117
      have c117 : _ ≤ (0 : Int) := c117
      exact go (fun z => z.1 (by omega)) _
    · -- pc 120
      refine wq_l 122 d277_120 rfl rfl rfl rfl ?_
      refine wq_b 128 125 d277_122 rfl (by decide) rfl (fun c122 => ?_) (fun c122 => ?_)
      · -- pc 128
        rw [i_le, esn] at c122
        have c122 : _ ≤ (0 : Int) := c122
        exact go (fun z => by omega) _
      · -- pc 125
        refine wq_k 127 43 d277_125 (by decide) rfl ?_
        refine wq_ri d277_127 (rfl) ?_
        rw [i_le, ep] at c117
        have c117 : ¬ _ ≤ (0 : Int) := c117
        rw [i_le, esn] at c122
        have c122 : ¬ _ ≤ (0 : Int) := c122
        rw [if_pos ⟨by omega, by omega⟩] at hQ
        exact hQ σ h.2.2.1 (fun z => absurd z (Nat.succ_ne_zero _))
  | false =>
    have y7 : yt = i + m + 1 := d4
    have y7 : i + 1 + m = yt := by omega
    rw [y7] at km bm ⊢
    refine wq_l 36 d277_35 rfl rfl rfl rfl ?_
    refine wq_gr (ci := 10) (j := 16) (q := 49) 39 d277_36 rfl rfl rfl rfl ?_
    refine wq_l 40 d277_39 rfl rfl rfl rfl ?_
    refine wq_al 41 d277_40 rfl rfl rfl (bm) ?_
    rw [km]
    refine wq_k 43 7 d277_41 (by decide) rfl ?_
    refine wq_b 55 46 d277_43 rfl (by decide) rfl (fun c43 => ?_) (fun c43 => absurd (fun z => by have z := hp_inj (b := 7) (by omega) (by decide) z; omega) c43)
    refine wq_k 56 (-1) d277_55 (by decide) rfl ?_
    refine wq_s 58 d277_56 rfl rfl (Nat.le_of_ble_eq_true rfl) rfl rfl ?_
    refine wq_l 59 d277_58 rfl rfl rfl rfl ?_
    refine wq_gr (ci := 10) (j := 16) (q := 49) 62 d277_59 rfl rfl rfl rfl ?_
    refine wq_l 63 d277_62 rfl rfl rfl rfl ?_
    refine wq_al 64 d277_63 rfl rfl rfl (bm) ?_
    rw [km]
    refine wq_k 66 7 d277_64 (by decide) rfl ?_
    refine wq_b 78 69 d277_66 rfl (by decide) rfl (fun c66 => ?_) (fun c66 => absurd (fun z => by have z := hp_inj (b := 7) (by omega) (by decide) z; omega) c66)
    refine wq_l 79 d277_78 rfl rfl rfl rfl ?_
    refine wq_s 81 d277_79 rfl rfl (Nat.le_of_ble_eq_true rfl) rfl rfl ?_
    refine wq_l 82 d277_81 rfl rfl rfl rfl ?_
    refine wq_gr (ci := 10) (j := 21) (q := 54) 85 d277_82 rfl rfl rfl rfl ?_
    refine wq_l 87 d277_85 rfl rfl rfl rfl ?_
    refine wq_al 88 d277_87 rfl rfl rfl (by') ?_
    rw [ey]
    refine wq_s 90 d277_88 rfl rfl (Nat.le_of_ble_eq_true rfl) rfl rfl ?_
    refine wq_l 91 d277_90 rfl rfl rfl rfl ?_
    refine wq_gr (ci := 10) (j := 18) (q := 51) 94 d277_91 rfl rfl rfl rfl ?_
    refine wq_l 95 d277_94 rfl rfl rfl rfl ?_
    refine wq_gr (ci := 10) (j := 22) (q := 55) 98 d277_95 rfl rfl rfl rfl ?_
    refine wq_l 99 d277_98 rfl rfl rfl rfl ?_
    refine wq_al 100 d277_99 rfl rfl rfl (bi) ?_
    rw [eq']
    refine wq_al 101 d277_100 rfl rfl rfl (bq) ?_
    rw [vq, s7]
    refine wq_s 103 d277_101 rfl rfl (Nat.le_of_ble_eq_true rfl) rfl rfl ?_
    refine wq_l 104 d277_103 rfl rfl rfl rfl ?_
    refine wq_gr (ci := 10) (j := 16) (q := 49) 107 d277_104 rfl rfl rfl rfl ?_
    refine wq_l 109 d277_107 rfl rfl rfl rfl ?_
    refine wq_al 110 d277_109 rfl rfl rfl (by') ?_
    rw [ky]
    refine wq_k 112 8 d277_110 (by decide) rfl ?_
    refine wq_a 113 d277_112 rfl rfl ?_
    rw [sb]
    refine wq_s 115 d277_113 rfl rfl (Nat.le_of_ble_eq_true rfl) rfl rfl ?_
    refine wq_l 117 d277_115 rfl rfl rfl rfl ?_
    refine wq_b 128 120 d277_117 rfl (by decide) rfl (fun c117 => ?_) (fun c117 => ?_)
    · -- pc 128
      rw [i_le, ep] at c117
      have c117 : _ ≤ (0 : Int) := c117
      exact go (fun z => z.1 (by omega)) _
    · -- pc 120
      refine wq_l 122 d277_120 rfl rfl rfl rfl ?_
      refine wq_b 128 125 d277_122 rfl (by decide) rfl (fun c122 => ?_) (fun c122 => ?_)
      · -- pc 128
        rw [i_le, esn] at c122
        have c122 : _ ≤ (0 : Int) := c122
        exact go (fun z => by omega) _
      · -- pc 125
        refine wq_k 127 43 d277_125 (by decide) rfl ?_
        refine wq_ri d277_127 (rfl) ?_
        rw [i_le, ep] at c117
        have c117 : ¬ _ ≤ (0 : Int) := c117
        rw [i_le, esn] at c122
        have c122 : ¬ _ ≤ (0 : Int) := c122
        rw [if_pos ⟨by omega, by omega⟩] at hQ
        exact hQ σ h.2.2.1 (fun z => absurd z (Nat.succ_ne_zero _))
