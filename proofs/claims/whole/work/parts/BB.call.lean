/-! CALLS of the class: the rule -/
theorem rl_sbo : ∀ {B : List rl_B} {x : Int32} {b : Nat} {y : rl_B}, pv_B B → rl_own B x = some (b, y) → rl_sb x = none ∧ rl_fn x = none := by
  intro B x b y hp h
  obtain ⟨h1, h2⟩ := rl_ownb h
  obtain ⟨r, _, hy⟩ := pv_blk hp h1
  have e := hy.2.1
  rw [h2] at e
  refine ⟨?_, h2 ▸ hy.2.2.1⟩
  unfold cb_nm at e
  cases q : rl_sb x with
  | none => rfl
  | some s => rw [q] at e; cases e
theorem rl_blkt {B : List rl_B} {b : Nat} {y : rl_B} (h : rl_blk B.tail b = some y) : rl_blk B b = some y ∧ b + 1 < B.length := by
  cases B with
  | nil => exact absurd (rl_blkl h) (Nat.not_lt_zero _)
  | cons z r =>
    have := rl_blkl h
    have h : rl_blk r b = some y := h
    have : b < r.length := this
    rw [rl_blkc, if_neg (by omega), List.length_cons]
    exact ⟨h, by omega⟩
theorem pv_tl {B : List rl_B} (hp : pv_B B) : pv_B B.tail := by
  cases B with
  | nil => exact hp
  | cons z r => exact hp.2.2
theorem cb_nbk {B : List rl_B} {x : Int32} (k : Nat) : cb_nb B x k = match rl_sb x with
    | some s => if k = 2 then some s else none
    | none => match rl_own B.tail x with
      | none => none
      | some (b, y) => if y.1 = k then some (9 + b) else none := by
  unfold cb_nb cb_nm
  cases hs : rl_sb x with
  | some s =>
    dsimp only
    have : s < 9 := by
      unfold rl_sb at hs
      by_cases w : 41 ≤ x.toInt ∧ x.toInt < 50
      · rw [if_pos w] at hs
        cases hs
        have := cl_i x (by omega)
        omega
      · rw [if_neg w] at hs; cases hs
    unfold cb_kd
    rw [if_pos this]
    by_cases q : k = 2
    · rw [if_pos q, if_pos q.symm]
    · rw [if_neg q, if_neg (fun z => q z.symm)]
  | none =>
    dsimp only
    cases ho : rl_own B.tail x with
    | none => rfl
    | some w =>
      obtain ⟨b, y⟩ := w
      have e := (rl_blkt (rl_ownb ho).1).1
      have ek : cb_kd B (9 + b) = y.1 := by
        unfold cb_kd
        rw [if_neg (by omega), show 9 + b - 9 = b by omega, e]
        rfl
      show (if cb_kd B (9 + b) = k then some (9 + b) else none) = _
      rw [ek]
section RLC
variable {l : List pg_N} {A : rl_A} {i : Nat}
def rl_tyc (l : List pg_N) (A : rl_A) (i j : Nat) : Int32 := if j < (rl_c l i).length then A.2.1 ((rl_c l i).getD j 0) else -1
theorem rl_call_f {f : Nat} (h : rl_fn (rl_v l i) = some f) : rl_call l A i = if (rl_c l i).length ≠ rl_ops f then (25, A) else if rl_std f (rl_tyc l A i 0) (rl_tyc l A i 1) (rl_tyc l A i 2) = -1 then (26, A) else (0, rl_me (rl_ty A i (rl_std f (rl_tyc l A i 0) (rl_tyc l A i 1) (rl_tyc l A i 2))) i (nI (100 + f))) := by
  unfold rl_call
  dsimp only
  rw [h]
  rfl
theorem rl_call_n (h : rl_fn (rl_v l i) = none) (h2 : rl_own A.1.tail (rl_v l i) = none) : rl_call l A i = (24, A) := by
  unfold rl_call
  dsimp only
  rw [h, h2]
theorem rl_call_o {b : Nat} {y : rl_B} (h : rl_fn (rl_v l i) = none) (h2 : rl_own A.1.tail (rl_v l i) = some (b, y)) : rl_call l A i = if y.1 ≠ 1 then (24, A) else if (rl_c l i).length ≠ rl_nin y then (25, A) else if (((rl_c l i).zip (rl_ins y)).all (fun p => rl_fits (A.2.1 p.1) p.2)) = false then (26, A) else (0, rl_me (rl_ty A i (rl_v l (y.2.2.1 + 1))) i (nI b)) := by
  unfold rl_call
  dsimp only
  rw [h, h2]
end RLC
theorem rl_ops3 (f : Nat) : rl_ops f = 1 ∨ rl_ops f = 2 ∨ rl_ops f = 3 := by
  unfold rl_ops
  by_cases q : f = 0 ∨ 6 < f
  · rw [if_pos q]; omega
  · rw [if_neg q]
    by_cases w : f = 3 ∨ f = 4
    · rw [if_pos w]; omega
    · rw [if_neg w]; omega
theorem cr174 {d : Nat} {l : List pg_N} {NN nx : Nat} {σ0 σ : pm_S} {A : rl_A} {Q : Option Value → pm_S → Prop} {i f : Nat} (hG : lg_G l NN) (h : cr_I l NN σ0 σ nx A) (hi : i < l.length) (hf : f < 10) (hn : (rl_c l i).length = rl_ops f) (hQ : Q (some (.int (rl_std f (rl_tyc l A i 0) (rl_tyc l A i 1) (rl_tyc l A i 2)))) σ) : pm_call pm_Y0 (d + 3) 174 [.ref 8, .int (nI f), .int (nI i)] σ Q := by
  obtain ⟨z1, z2, z3⟩ := lg_cl hG hi
  rcases rl_ops3 f with q | q | q
  · rw [q] at hn
    obtain ⟨a1, a2, a3, a4, a5, a6⟩ := rl_rowl z1 z3 hn
    obtain ⟨b1, b2⟩ := rl_rowz z1 a6 a3 a4
    have e : rl_c l i = [i + 1] := by rw [rl_crow, a2, b2]
    refine cr174a h (by omega) z1 hf q b1 ?_
    unfold rl_tyc at hQ
    rw [e] at hQ
    exact hQ
  · rw [q] at hn
    obtain ⟨a1, a2, a3, a4, a5, a6⟩ := rl_rowl z1 z3 hn
    obtain ⟨b1, b2, b3, b4, b5, b6⟩ := rl_rowl z1 a6 a3
    obtain ⟨c1, c2⟩ := rl_rowz z1 b6 b3 b4
    have e : rl_c l i = [i + 1, i + 1 + rl_z l (i + 1)] := by rw [rl_crow, a2, b2, c2]
    refine cr174b h (by omega) z1 hf q (by omega) c1 b1 ?_
    unfold rl_tyc at hQ
    rw [e] at hQ
    exact hQ
  · rw [q] at hn
    obtain ⟨a1, a2, a3, a4, a5, a6⟩ := rl_rowl z1 z3 hn
    obtain ⟨b1, b2, b3, b4, b5, b6⟩ := rl_rowl z1 a6 a3
    obtain ⟨c1, c2, c3, c4, c5, c6⟩ := rl_rowl z1 b6 b3
    obtain ⟨d1, d2⟩ := rl_rowz z1 c6 c3 c4
    have e : rl_c l i = [i + 1, i + 1 + rl_z l (i + 1), i + 1 + rl_z l (i + 1) + rl_z l (i + 1 + rl_z l (i + 1))] := by rw [rl_crow, a2, b2, c2, d2]
    refine cr174c h (by omega) z1 hf q (by omega) (by omega) c1 b1 ?_
    unfold rl_tyc at hQ
    rw [e] at hQ
    exact hQ
theorem cr172f {d : Nat} {l : List pg_N} {NN nx : Nat} {σ0 σ : pm_S} {A : rl_A} {Q : Option Value → pm_S → Prop} {i b : Nat} {y : rl_B} (hG : lg_G l NN) (h : cr_I l NN σ0 σ nx A) (hi : i < l.length) (hb : rl_blk A.1 b = some y) (hk : y.1 = 1) (h8 : rl_nin y ≤ 8) (hn : (rl_c l i).length = rl_nin y) (h0 : (((rl_c l i).zip (rl_ins y)).all (fun p => rl_fits (A.2.1 p.1) p.2)) = false → Q (some (.int (-1))) σ) (h1 : (((rl_c l i).zip (rl_ins y)).all (fun p => rl_fits (A.2.1 p.1) p.2)) = true → Q (some (.int (rl_v l (y.2.2.1 + 1)))) σ) : pm_call pm_Y0 (d + 2) 172 [.ref 8, .int (nI (9 + b)), .int (nI i)] σ Q := by
  refine cr172 hG h hi hb hk h8 hn ?_
  cases hall : (((rl_c l i).zip (rl_ins y)).all (fun p => rl_fits (A.2.1 p.1) p.2)) with
  | false => rw [if_neg (by decide)]; exact h0 hall
  | true => rw [if_pos rfl]; exact h1 hall
theorem rl_fnl {x : Int32} {f : Nat} (h : rl_fn x = some f) : f < 10 := by
  unfold rl_fn at h
  by_cases w : 50 ≤ x.toInt ∧ x.toInt < 60
  · rw [if_pos w] at h
    cases h
    have := cl_i x (by omega)
    omega
  · rw [if_neg w] at h; cases h
theorem cr170 {d : Nat} {l : List pg_N} {NN nx : Nat} {σ0 σ : pm_S} {A : rl_A} {Q : Option Value → pm_S → Prop} {i : Nat} (hG : lg_G l NN) (h : cr_I l NN σ0 σ nx A) (hp : pv_B A.1) (hB : A.1 ≠ []) (hi : i < l.length) (hx : 0 ≤ (rl_v l i).toInt ∧ (rl_v l i).toInt < NN) (hr : ∀ b y, rl_blk A.1 b = some y → y.1 = 1 → ¬ rl_v l (y.2.2.1 + 1) = -1) (hQ : ∀ σ' A', cr_I l NN σ0 σ' nx A' → ((rl_call l A i).1 = 0 → A' = (rl_call l A i).2) → Q (some (.int (nI (rl_call l A i).1))) σ') : pm_call pm_Y0 (d + 4) 170 [.ref 8, .int (nI i)] σ Q := by
  have hl := h.2.1.1
  have hcl : (rl_c l i).length ≤ 16386 := by
    have : ∀ (f s e : Nat), (rl_ch l f s e).length ≤ f := by
      intro f
      induction f with
      | zero => intro s e; exact Nat.le_refl _
      | succ f ih =>
        intro s e
        rw [rl_chu]
        by_cases q : s < e
        · rw [if_pos q, List.length_cons]; have := ih (s + rl_z l s) e; omega
        · rw [if_neg q, List.length_nil]; omega
    have := this l.length (i + 1) (i + rl_z l i)
    unfold rl_c
    omega
  cases hfn : rl_fn (rl_v l i) with
  | some f =>
    have hf := rl_fnl hfn
    rw [rl_call_f hfn] at hQ
    refine wq_m m170 (Nat.le_of_ble_eq_true rfl) (by decide) rfl ?_
    refine wq_l 1 d170_0 rfl rfl rfl rfl ?_
    refine wq_gr (ci := 8) (j := 0) (q := 3) 4 d170_1 rfl rfl rfl rfl ?_
    refine wq_l 5 d170_4 rfl rfl rfl rfl ?_
    refine wq_v 8 [_] d170_5 rfl rfl m66 rfl rfl (Nat.le_of_ble_eq_true rfl) rfl (ck66 (cr_S h) (by omega) ?_)
    refine wq_s 9 d170_8 rfl rfl (Nat.le_of_ble_eq_true rfl) rfl rfl ?_
    refine wq_l 10 d170_9 rfl rfl rfl rfl ?_
    refine wq_vs 13 [_] d170_10 rfl rfl m22 rfl (Nat.le_of_ble_eq_true rfl) rfl (sp22 ?_)
    rw [hfn]
    refine wq_s 14 d170_13 rfl rfl (Nat.le_of_ble_eq_true rfl) rfl rfl ?_
    refine wq_l 15 d170_14 rfl rfl rfl rfl ?_
    refine wq_gr (ci := 8) (j := 1) (q := 5) 18 d170_15 rfl rfl rfl rfl ?_
    refine wq_l 19 d170_18 rfl rfl rfl rfl ?_
    refine wq_k 20 1 d170_19 (by decide) rfl ?_
    refine wq_v 23 [_, _] d170_20 rfl rfl m122 rfl rfl (Nat.le_of_ble_eq_true rfl) rfl (cb122 (k := 1) h.1 (by decide) (pv_kd hp) h.2.2.2.2.1 hB (pv_hf hp hB) hx ?_)
    refine wq_s 25 d170_23 rfl rfl (Nat.le_of_ble_eq_true rfl) rfl rfl ?_
    refine wq_l 26 d170_25 rfl rfl rfl rfl ?_
    refine wq_k 27 (-1) d170_26 (by decide) rfl ?_
    refine wq_b 39 30 d170_27 rfl (by decide) rfl (fun c27 => ?_) (fun c27 => absurd (hp_ne (by omega)) c27)
    refine wq_l 40 d170_39 rfl rfl rfl rfl ?_
    refine wq_k 41 (-1) d170_40 (by decide) rfl ?_
    refine wq_b 56 44 d170_41 rfl (by decide) rfl (fun c41 => ?_) (fun c41 => absurd (hp_ne (by omega)) c41)
    refine wq_l 57 d170_56 rfl rfl rfl rfl ?_
    refine wq_vs 60 [_] d170_57 rfl rfl m171 rfl (Nat.le_of_ble_eq_true rfl) rfl (sp171 hf ?_)
    refine wq_s 62 d170_60 rfl rfl (Nat.le_of_ble_eq_true rfl) rfl rfl ?_
    refine wq_l 63 d170_62 rfl rfl rfl rfl ?_
    refine wq_gr (ci := 8) (j := 0) (q := 3) 66 d170_63 rfl rfl rfl rfl ?_
    refine wq_l 67 d170_66 rfl rfl rfl rfl ?_
    refine wq_v 70 [_] d170_67 rfl rfl m72 rfl rfl (Nat.le_of_ble_eq_true rfl) rfl (ck72 hG (cr_S h) hi ?_)
    refine wq_l 72 d170_70 rfl rfl rfl rfl ?_
    refine wq_b 78 75 d170_72 rfl (by decide) rfl (fun c72 => ?_) (fun c72 => ?_)
    · -- pc 78
      have c72 : (rl_c l i).length = rl_ops f := hp_inj (by omega) (by have := rl_ops3 f; omega) c72
      rw [if_neg (fun z => z c72)] at hQ
      refine wq_l 79 d170_78 rfl rfl rfl rfl ?_
      refine wq_k 80 (-1) d170_79 (by decide) rfl ?_
      refine wq_b 93 83 d170_80 rfl (by decide) rfl (fun c80 => ?_) (fun c80 => absurd (hp_ne (by omega)) c80)
      refine wq_l 94 d170_93 rfl rfl rfl rfl ?_
      refine wq_l 95 d170_94 rfl rfl rfl rfl ?_
      refine wq_l 96 d170_95 rfl rfl rfl rfl ?_
      refine wq_v 99 [_, _] d170_96 rfl rfl m174 rfl rfl (Nat.le_of_ble_eq_true rfl) rfl (cr174 hG h hi hf c72 ?_)
      refine wq_s 101 d170_99 rfl rfl (Nat.le_of_ble_eq_true rfl) rfl rfl ?_
      refine wq_l 103 d170_101 rfl rfl rfl rfl ?_
      refine wq_k 104 (-1) d170_103 (by decide) rfl ?_
      refine wq_b 110 107 d170_104 rfl (by decide) rfl (fun c104 => ?_) (fun c104 => ?_)
      · -- pc 110
        rw [if_neg c104] at hQ
        refine wq_l 111 d170_110 rfl rfl rfl rfl ?_
        refine wq_gr (ci := 8) (j := 0) (q := 3) 114 d170_111 rfl rfl rfl rfl ?_
        refine wq_l 115 d170_114 rfl rfl rfl rfl ?_
        refine wq_l 117 d170_115 rfl rfl rfl rfl ?_
        refine wq_v 120 [_, _] d170_117 rfl rfl m70 rfl rfl (Nat.le_of_ble_eq_true rfl) rfl (ck70 h (by omega) (fun σ117 h117 => ?_))
        refine wq_l 121 d170_120 rfl rfl rfl rfl ?_
        refine wq_gr (ci := 8) (j := 0) (q := 3) 124 d170_121 rfl rfl rfl rfl ?_
        refine wq_l 125 d170_124 rfl rfl rfl rfl ?_
        refine wq_l 126 d170_125 rfl rfl rfl rfl ?_
        refine wq_k 127 (-1) d170_126 (by decide) rfl ?_
        refine wq_b 138 130 d170_127 rfl (by decide) rfl (fun c127 => ?_) (fun c127 => absurd (hp_ne (by omega)) c127)
        refine wq_k 140 100 d170_138 (by decide) rfl ?_
        refine wq_l 141 d170_140 rfl rfl rfl rfl ?_
        refine wq_a 142 d170_141 rfl rfl ?_
        rw [show (100 : Int32) + hp_oi (some f) = nI (100 + f) from nI_add 100 f]
        refine wq_v 145 [_, _] d170_142 rfl rfl m68 rfl rfl (Nat.le_of_ble_eq_true rfl) rfl (ck68 h117 (by omega) (fun σ142 h142 => ?_))
        refine wq_k 146 0 d170_145 (by decide) rfl ?_
        refine wq_ri d170_146 (rfl) ?_
        exact hQ _ _ h142 (fun _ => rfl)
      · -- pc 107
        refine wq_k 109 26 d170_107 (by decide) rfl ?_
        refine wq_ri d170_109 (rfl) ?_
        rw [if_pos (Classical.not_not.mp c104)] at hQ
        exact hQ _ _ h (fun z => absurd (show (26 : Nat) = 0 from z) (by decide))
    · -- pc 75
      refine wq_k 77 25 d170_75 (by decide) rfl ?_
      refine wq_ri d170_77 (rfl) ?_
      rw [if_pos (fun z => c72 (congrArg nI z))] at hQ
      exact hQ _ _ h (fun z => absurd (show (25 : Nat) = 0 from z) (by decide))
  | none =>
    cases ho : rl_own A.1.tail (rl_v l i) with
    | none =>
      rw [rl_call_n hfn ho] at hQ
      have e20 : cb_nb A.1 (rl_v l i) 1 = none := by
        rw [cb_nbk 1, ho]
        cases rl_sb (rl_v l i) <;> rfl
      refine wq_m m170 (Nat.le_of_ble_eq_true rfl) (by decide) rfl ?_
      refine wq_l 1 d170_0 rfl rfl rfl rfl ?_
      refine wq_gr (ci := 8) (j := 0) (q := 3) 4 d170_1 rfl rfl rfl rfl ?_
      refine wq_l 5 d170_4 rfl rfl rfl rfl ?_
      refine wq_v 8 [_] d170_5 rfl rfl m66 rfl rfl (Nat.le_of_ble_eq_true rfl) rfl (ck66 (cr_S h) (by omega) ?_)
      refine wq_s 9 d170_8 rfl rfl (Nat.le_of_ble_eq_true rfl) rfl rfl ?_
      refine wq_l 10 d170_9 rfl rfl rfl rfl ?_
      refine wq_vs 13 [_] d170_10 rfl rfl m22 rfl (Nat.le_of_ble_eq_true rfl) rfl (sp22 ?_)
      rw [hfn]
      refine wq_s 14 d170_13 rfl rfl (Nat.le_of_ble_eq_true rfl) rfl rfl ?_
      refine wq_l 15 d170_14 rfl rfl rfl rfl ?_
      refine wq_gr (ci := 8) (j := 1) (q := 5) 18 d170_15 rfl rfl rfl rfl ?_
      refine wq_l 19 d170_18 rfl rfl rfl rfl ?_
      refine wq_k 20 1 d170_19 (by decide) rfl ?_
      refine wq_v 23 [_, _] d170_20 rfl rfl m122 rfl rfl (Nat.le_of_ble_eq_true rfl) rfl (cb122 (k := 1) h.1 (by decide) (pv_kd hp) h.2.2.2.2.1 hB (pv_hf hp hB) hx ?_)
      rw [e20]
      refine wq_s 25 d170_23 rfl rfl (Nat.le_of_ble_eq_true rfl) rfl rfl ?_
      refine wq_l 26 d170_25 rfl rfl rfl rfl ?_
      refine wq_k 27 (-1) d170_26 (by decide) rfl ?_
      refine wq_b 39 30 d170_27 rfl (by decide) rfl (fun c27 => absurd c27 (fun z => z rfl)) (fun c27 => ?_)
      refine wq_l 32 d170_30 rfl rfl rfl rfl ?_
      refine wq_k 33 (-1) d170_32 (by decide) rfl ?_
      refine wq_b 39 36 d170_33 rfl (by decide) rfl (fun c33 => absurd c33 (fun z => z rfl)) (fun c33 => ?_)
      refine wq_k 38 24 d170_36 (by decide) rfl ?_
      refine wq_ri d170_38 (rfl) ?_
      exact hQ _ _ h (fun z => absurd (show (24 : Nat) = 0 from z) (by decide))
    | some w =>
      obtain ⟨b, y⟩ := w
      obtain ⟨y1, y2⟩ := rl_ownb ho
      obtain ⟨y3, y4⟩ := rl_blkt y1
      have hsb := (rl_sbo (pv_tl hp) ho).1
      have hB9 := h.2.2.2.2.1.1
      have e20 : cb_nb A.1 (rl_v l i) 1 = if y.1 = 1 then some (9 + b) else none := by
        rw [cb_nbk 1, ho, hsb]
      rw [rl_call_o hfn ho] at hQ
      by_cases q1 : y.1 = 1
      · rw [if_pos q1] at e20
        rw [if_neg (fun z => z q1)] at hQ
        have h8 := (pv_dn hp y3 y4).2.1 q1
        refine wq_m m170 (Nat.le_of_ble_eq_true rfl) (by decide) rfl ?_
        refine wq_l 1 d170_0 rfl rfl rfl rfl ?_
        refine wq_gr (ci := 8) (j := 0) (q := 3) 4 d170_1 rfl rfl rfl rfl ?_
        refine wq_l 5 d170_4 rfl rfl rfl rfl ?_
        refine wq_v 8 [_] d170_5 rfl rfl m66 rfl rfl (Nat.le_of_ble_eq_true rfl) rfl (ck66 (cr_S h) (by omega) ?_)
        refine wq_s 9 d170_8 rfl rfl (Nat.le_of_ble_eq_true rfl) rfl rfl ?_
        refine wq_l 10 d170_9 rfl rfl rfl rfl ?_
        refine wq_vs 13 [_] d170_10 rfl rfl m22 rfl (Nat.le_of_ble_eq_true rfl) rfl (sp22 ?_)
        rw [hfn]
        refine wq_s 14 d170_13 rfl rfl (Nat.le_of_ble_eq_true rfl) rfl rfl ?_
        refine wq_l 15 d170_14 rfl rfl rfl rfl ?_
        refine wq_gr (ci := 8) (j := 1) (q := 5) 18 d170_15 rfl rfl rfl rfl ?_
        refine wq_l 19 d170_18 rfl rfl rfl rfl ?_
        refine wq_k 20 1 d170_19 (by decide) rfl ?_
        refine wq_v 23 [_, _] d170_20 rfl rfl m122 rfl rfl (Nat.le_of_ble_eq_true rfl) rfl (cb122 (k := 1) h.1 (by decide) (pv_kd hp) h.2.2.2.2.1 hB (pv_hf hp hB) hx ?_)
        rw [e20]
        refine wq_s 25 d170_23 rfl rfl (Nat.le_of_ble_eq_true rfl) rfl rfl ?_
        refine wq_l 26 d170_25 rfl rfl rfl rfl ?_
        refine wq_k 27 (-1) d170_26 (by decide) rfl ?_
        refine wq_b 39 30 d170_27 rfl (by decide) rfl (fun c27 => absurd c27 (fun z => z rfl)) (fun c27 => ?_)
        refine wq_l 32 d170_30 rfl rfl rfl rfl ?_
        refine wq_k 33 (-1) d170_32 (by decide) rfl ?_
        refine wq_b 39 36 d170_33 rfl (by decide) rfl (fun c33 => ?_) (fun c33 => absurd (hp_ne (by omega)) c33)
        refine wq_l 40 d170_39 rfl rfl rfl rfl ?_
        refine wq_k 41 (-1) d170_40 (by decide) rfl ?_
        refine wq_b 56 44 d170_41 rfl (by decide) rfl (fun c41 => absurd c41 (fun z => z rfl)) (fun c41 => ?_)
        refine wq_l 45 d170_44 rfl rfl rfl rfl ?_
        refine wq_gr (ci := 8) (j := 1) (q := 5) 48 d170_45 rfl rfl rfl rfl ?_
        refine wq_l 50 d170_48 rfl rfl rfl rfl ?_
        refine wq_v 53 [_] d170_50 rfl rfl m120 rfl rfl (Nat.le_of_ble_eq_true rfl) rfl (cb120 h.2.2.2.2.1 y3 ?_)
        refine wq_g 60 d170_53 (by decide) ?_
        refine wq_s 62 d170_60 rfl rfl (Nat.le_of_ble_eq_true rfl) rfl rfl ?_
        refine wq_l 63 d170_62 rfl rfl rfl rfl ?_
        refine wq_gr (ci := 8) (j := 0) (q := 3) 66 d170_63 rfl rfl rfl rfl ?_
        refine wq_l 67 d170_66 rfl rfl rfl rfl ?_
        refine wq_v 70 [_] d170_67 rfl rfl m72 rfl rfl (Nat.le_of_ble_eq_true rfl) rfl (ck72 hG (cr_S h) hi ?_)
        refine wq_l 72 d170_70 rfl rfl rfl rfl ?_
        refine wq_b 78 75 d170_72 rfl (by decide) rfl (fun c72 => ?_) (fun c72 => ?_)
        · -- pc 78
          have c72 : (rl_c l i).length = rl_nin y := hp_inj (by omega) (by omega) c72
          rw [if_neg (fun z => z c72)] at hQ
          refine wq_l 79 d170_78 rfl rfl rfl rfl ?_
          refine wq_k 80 (-1) d170_79 (by decide) rfl ?_
          refine wq_b 93 83 d170_80 rfl (by decide) rfl (fun c80 => absurd c80 (fun z => z rfl)) (fun c80 => ?_)
          refine wq_l 84 d170_83 rfl rfl rfl rfl ?_
          refine wq_l 86 d170_84 rfl rfl rfl rfl ?_
          refine wq_l 87 d170_86 rfl rfl rfl rfl ?_
          refine wq_v 90 [_, _] d170_87 rfl rfl m172 rfl rfl (Nat.le_of_ble_eq_true rfl) rfl (cr172f hG h hi y3 q1 h8 c72 (fun hall => ?_) (fun hall => ?_))
          · -- fork 87
            rw [if_pos hall] at hQ
            refine wq_g 99 d170_90 (by decide) ?_
            refine wq_s 101 d170_99 rfl rfl (Nat.le_of_ble_eq_true rfl) rfl rfl ?_
            refine wq_l 103 d170_101 rfl rfl rfl rfl ?_
            refine wq_k 104 (-1) d170_103 (by decide) rfl ?_
            refine wq_b 110 107 d170_104 rfl (by decide) rfl (fun c104 => absurd c104 (fun z => z rfl)) (fun c104 => ?_)
            refine wq_k 109 26 d170_107 (by decide) rfl ?_
            refine wq_ri d170_109 (rfl) ?_
            exact hQ _ _ h (fun z => absurd (show (26 : Nat) = 0 from z) (by decide))
          · -- fork 87
            rw [if_neg (fun z => absurd (hall.symm.trans z) (by decide))] at hQ
            have hne : ¬ rl_v l (y.2.2.1 + 1) = -1 := hr b y y3 q1
            refine wq_g 99 d170_90 (by decide) ?_
            refine wq_s 101 d170_99 rfl rfl (Nat.le_of_ble_eq_true rfl) rfl rfl ?_
            refine wq_l 103 d170_101 rfl rfl rfl rfl ?_
            refine wq_k 104 (-1) d170_103 (by decide) rfl ?_
            refine wq_b 110 107 d170_104 rfl (by decide) rfl (fun c104 => ?_) (fun c104 => absurd (hne) c104)
            refine wq_l 111 d170_110 rfl rfl rfl rfl ?_
            refine wq_gr (ci := 8) (j := 0) (q := 3) 114 d170_111 rfl rfl rfl rfl ?_
            refine wq_l 115 d170_114 rfl rfl rfl rfl ?_
            refine wq_l 117 d170_115 rfl rfl rfl rfl ?_
            refine wq_v 120 [_, _] d170_117 rfl rfl m70 rfl rfl (Nat.le_of_ble_eq_true rfl) rfl (ck70 h (by omega) (fun σ117 h117 => ?_))
            refine wq_l 121 d170_120 rfl rfl rfl rfl ?_
            refine wq_gr (ci := 8) (j := 0) (q := 3) 124 d170_121 rfl rfl rfl rfl ?_
            refine wq_l 125 d170_124 rfl rfl rfl rfl ?_
            refine wq_l 126 d170_125 rfl rfl rfl rfl ?_
            refine wq_k 127 (-1) d170_126 (by decide) rfl ?_
            refine wq_b 138 130 d170_127 rfl (by decide) rfl (fun c127 => absurd c127 (fun z => z rfl)) (fun c127 => ?_)
            refine wq_l 132 d170_130 rfl rfl rfl rfl ?_
            refine wq_k 134 9 d170_132 (by decide) rfl ?_
            refine wq_a 135 d170_134 rfl rfl ?_
            rw [show hp_oi (some (9 + b)) - 9 = nI b from by show nI (9 + b) - nI 9 = nI b; rw [Nat.add_comm]; exact nI_sb b 9]
            refine wq_g 142 d170_135 (by decide) ?_
            refine wq_v 145 [_, _] d170_142 rfl rfl m68 rfl rfl (Nat.le_of_ble_eq_true rfl) rfl (ck68 h117 (by omega) (fun σ142 h142 => ?_))
            refine wq_k 146 0 d170_145 (by decide) rfl ?_
            refine wq_ri d170_146 (rfl) ?_
            exact hQ _ _ h142 (fun _ => rfl)
        · -- pc 75
          refine wq_k 77 25 d170_75 (by decide) rfl ?_
          refine wq_ri d170_77 (rfl) ?_
          rw [if_pos (fun z => c72 (congrArg nI z))] at hQ
          exact hQ _ _ h (fun z => absurd (show (25 : Nat) = 0 from z) (by decide))
      · rw [if_neg q1] at e20
        rw [if_pos q1] at hQ
        refine wq_m m170 (Nat.le_of_ble_eq_true rfl) (by decide) rfl ?_
        refine wq_l 1 d170_0 rfl rfl rfl rfl ?_
        refine wq_gr (ci := 8) (j := 0) (q := 3) 4 d170_1 rfl rfl rfl rfl ?_
        refine wq_l 5 d170_4 rfl rfl rfl rfl ?_
        refine wq_v 8 [_] d170_5 rfl rfl m66 rfl rfl (Nat.le_of_ble_eq_true rfl) rfl (ck66 (cr_S h) (by omega) ?_)
        refine wq_s 9 d170_8 rfl rfl (Nat.le_of_ble_eq_true rfl) rfl rfl ?_
        refine wq_l 10 d170_9 rfl rfl rfl rfl ?_
        refine wq_vs 13 [_] d170_10 rfl rfl m22 rfl (Nat.le_of_ble_eq_true rfl) rfl (sp22 ?_)
        rw [hfn]
        refine wq_s 14 d170_13 rfl rfl (Nat.le_of_ble_eq_true rfl) rfl rfl ?_
        refine wq_l 15 d170_14 rfl rfl rfl rfl ?_
        refine wq_gr (ci := 8) (j := 1) (q := 5) 18 d170_15 rfl rfl rfl rfl ?_
        refine wq_l 19 d170_18 rfl rfl rfl rfl ?_
        refine wq_k 20 1 d170_19 (by decide) rfl ?_
        refine wq_v 23 [_, _] d170_20 rfl rfl m122 rfl rfl (Nat.le_of_ble_eq_true rfl) rfl (cb122 (k := 1) h.1 (by decide) (pv_kd hp) h.2.2.2.2.1 hB (pv_hf hp hB) hx ?_)
        rw [e20]
        refine wq_s 25 d170_23 rfl rfl (Nat.le_of_ble_eq_true rfl) rfl rfl ?_
        refine wq_l 26 d170_25 rfl rfl rfl rfl ?_
        refine wq_k 27 (-1) d170_26 (by decide) rfl ?_
        refine wq_b 39 30 d170_27 rfl (by decide) rfl (fun c27 => absurd c27 (fun z => z rfl)) (fun c27 => ?_)
        refine wq_l 32 d170_30 rfl rfl rfl rfl ?_
        refine wq_k 33 (-1) d170_32 (by decide) rfl ?_
        refine wq_b 39 36 d170_33 rfl (by decide) rfl (fun c33 => absurd c33 (fun z => z rfl)) (fun c33 => ?_)
        refine wq_k 38 24 d170_36 (by decide) rfl ?_
        refine wq_ri d170_38 (rfl) ?_
        exact hQ _ _ h (fun z => absurd (show (24 : Nat) = 0 from z) (by decide))
