/-! STANDARD FUNCTIONS of the reference -/
def rl_stq (A : rl_A) (i : Nat) (r : Int32) : Nat × rl_A := if r = -1 then (26, A) else (0, rl_ty A i r)
theorem rw_0 {a : Int32} (ha : pv_T a) (b c : Int32) : rl_std 0 a b c = if 0 < a then a else -1 := by
  show rl_wid a a = _
  rcases ha with q | q | q <;> rw [q] <;> decide
theorem rw_1 {a b : Int32} (ha : pv_T a) (hb : pv_T b) : rl_wid a b = if 0 < a ∧ 0 < b then (if b < a then a else b) else -1 := by
  rcases ha with q | q | q <;> rcases hb with w | w | w <;> rw [q, w] <;> decide
theorem rw_3 {a b c : Int32} (ha : pv_T a) (hb : pv_T b) (hc : pv_T c) : rl_std 3 a b c = if 0 < a ∧ 0 < b ∧ 0 < c then (if (if c < b then b else c) < a then a else (if c < b then b else c)) else -1 := by
  show rl_wid (rl_wid a b) c = _
  rcases ha with q | q | q <;> rcases hb with w | w | w <;> rcases hc with z | z | z <;> rw [q, w, z] <;> decide
theorem rw_4 {a b c : Int32} (ha : pv_T a) (hb : pv_T b) (hc : pv_T c) : rl_std 4 a b c = if a = 0 ∧ ((b = 0 ∧ c = 0) ∨ (0 < b ∧ 0 < c)) then (if c < b then b else c) else -1 := by
  show (if a = 0 then rl_com b c else -1) = _
  rcases ha with q | q | q <;> rcases hb with w | w | w <;> rcases hc with z | z | z <;> rw [q, w, z] <;> decide
theorem rw_5 {a b : Int32} (ha : pv_T a) (hb : pv_T b) : (if rl_num a = true ∧ rl_num b = true then a else -1) = if 0 < a ∧ 0 < b then a else -1 := by
  rcases ha with q | q | q <;> rcases hb with w | w | w <;> rw [q, w] <;> decide
theorem rw_9 {a : Int32} (ha : pv_T a) : (if rl_num a = true then (0 : Int32) else -1) = if 0 < a then 0 else -1 := by
  rcases ha with q | q | q <;> rw [q] <;> decide
theorem rw_m {a b : Int32} (ha : pv_T a) (hb : pv_T b) : pv_T (if b < a then a else b) := by
  by_cases q : b < a
  · rw [if_pos q]; exact ha
  · rw [if_neg q]; exact hb
theorem rw_nn {a : Int32} (ha : pv_T a) : ¬ a < 0 := by
  rcases ha with q | q | q <;> rw [q] <;> decide
theorem re310t {d : Nat} {l : List pg_N} {a : Nat → Nat} {R : Int32 → Int32 → Prop} {σ0 σ : pm_S} {fl : Bool} {u : Nat} {A : rl_A} {Q : Option Value → pm_S → Prop} {i : Nat} {f x3 x4 x5 r : Int32} (h : rr_I l a R σ0 σ fl u A) (hi : i < l.length) (hr : r = -1 ∨ pv_T r) (hQ : rr_Q l a R σ0 fl u (rl_stq A i r) Q) : pm_WP pm_Y0 (pm_call pm_Y0 (d)) 10 prog_14_method_98_code (some FieldType.int) Q 291 [.ref 10, .int (nI (a i)), .int f, .int x3, .int x4, .int x5, .int r] [] σ := by
  have bi := rt_b (rr_T h) hi
  have hS := rr_ty h hi r
  unfold rl_stq at hQ
  refine wq_l 292 d310_291 rfl rfl rfl rfl ?_
  refine wq_gr (ci := 10) (j := 23) (q := 56) 295 d310_292 rfl rfl rfl rfl ?_
  refine wq_l 296 d310_295 rfl rfl rfl rfl ?_
  refine wq_l 298 d310_296 rfl rfl rfl rfl ?_
  refine wq_as 299 d310_298 rfl rfl rfl (bi) ?_
  refine wq_l 301 d310_299 rfl rfl rfl rfl ?_
  refine wq_b 309 304 d310_301 rfl (by decide) rfl (fun c301 => ?_) (fun c301 => ?_)
  · -- pc 309
    refine wq_k 310 0 d310_309 (by decide) rfl ?_
    refine wq_ri d310_310 (rfl) ?_
    rw [if_neg (fun z => by rw [z] at c301; exact absurd c301 (by decide))] at hQ
    exact rr_q0 hQ hS rfl
  · -- pc 304
    refine wq_k 306 26 d310_304 (by decide) rfl ?_
    refine wq_g 310 d310_306 (by decide) ?_
    refine wq_ri d310_310 (rfl) ?_
    rw [if_pos (hr.resolve_right (fun z => c301 (Int32.not_lt.mp (rw_nn z))))] at hQ
    exact rr_q1 (k := 26) hQ (rr_Fi hS) rfl (by decide)
theorem re310 {d : Nat} {l : List pg_N} {a : Nat → Nat} {R : Int32 → Int32 → Prop} {σ0 σ : pm_S} {fl : Bool} {u : Nat} {A : rl_A} {Q : Option Value → pm_S → Prop} {NN i f : Nat} (hG : lg_G l NN) (h : rr_I l a R σ0 σ fl u A) (hi : i < l.length) (hf : f < 10) (hn : (rl_c l i).length = rl_ops f) (ht : ∀ c ∈ rl_c l i, pv_T (A.2.1 c)) (hQ : rr_Q l a R σ0 fl u (rl_stq A i (rl_std f (rl_tyc l A i 0) (rl_tyc l A i 1) (rl_tyc l A i 2))) Q) : pm_call pm_Y0 (d + 2) 310 [.ref 10, .int (nI (a i)), .int (nI (100 + f))] σ Q := by
  have bi := rt_b (rr_T h) hi
  have z1 : 0 < (rl_c l i).length := by
    rw [hn]
    have : ∀ f, f < 10 → 0 < rl_ops f := by decide
    exact this f hf
  obtain ⟨k1, k2, k3⟩ := lg_cl hG hi
  have hz : i + 1 < i + rl_z l i := by
    rcases Nat.lt_or_ge (i + 1) (i + rl_z l i) with w | w
    · exact w
    · rw [rl_crow, rl_row0 (by omega)] at z1; exact absurd z1 (by decide)
  have hi1 : i + 1 < l.length := by omega
  have ef := (rt_f (rr_T h) hG hi).trans (if_pos hz)
  have er := rl_rowu k1 k3 hz
  have ec : rl_c l i = (i + 1) :: rl_row l (i + 1 + rl_z l (i + 1)) (i + rl_z l i) := er
  obtain ⟨c1, c2, c3⟩ := rl_clz k3 hz
  have m1 : i + 1 ∈ rl_c l i := by rw [ec]; exact List.mem_cons_self
  have t1 := ht _ m1
  have n1 := rt_n (rr_T h) hG hi m1
  have y1 : rl_tyc l A i 0 = A.2.1 (i + 1) := by unfold rl_tyc; rw [if_pos z1, ec]; rfl
  rw [y1] at hQ
  rcases (show f = 0 ∨ f = 7 ∨ f = 8 ∨ f = 9 ∨ f = 1 ∨ f = 2 ∨ f = 5 ∨ f = 6 ∨ f = 3 ∨ f = 4 by omega) with g | g | g | g | g | g | g | g | g | g <;> subst g
  · have hn : (rl_c l i).length = 1 := hn
    have e1 : ¬ i + 1 + rl_z l (i + 1) < i + rl_z l i := fun w => by
      rw [ec, rl_rowu k1 c3 w] at hn; exact absurd hn (by simp)
    rw [if_neg e1] at n1
    refine wq_m m310 (Nat.le_of_ble_eq_true rfl) (by decide) rfl ?_
    refine wq_l 1 d310_0 rfl rfl rfl rfl ?_
    refine wq_gr (ci := 10) (j := 23) (q := 56) 4 d310_1 rfl rfl rfl rfl ?_
    refine wq_l 5 d310_4 rfl rfl rfl rfl ?_
    refine wq_gr (ci := 10) (j := 19) (q := 52) 8 d310_5 rfl rfl rfl rfl ?_
    refine wq_l 9 d310_8 rfl rfl rfl rfl ?_
    refine wq_al 10 d310_9 rfl rfl rfl (bi) ?_
    rw [ef]
    refine wq_al 11 d310_10 rfl rfl rfl (rt_b (rr_T h) hi1) ?_
    rw [rt_t h hi1]
    refine wq_s 12 d310_11 rfl rfl (Nat.le_of_ble_eq_true rfl) rfl rfl ?_
    refine wq_l 13 d310_12 rfl rfl rfl rfl ?_
    refine wq_gr (ci := 10) (j := 21) (q := 54) 16 d310_13 rfl rfl rfl rfl ?_
    refine wq_l 17 d310_16 rfl rfl rfl rfl ?_
    refine wq_gr (ci := 10) (j := 19) (q := 52) 20 d310_17 rfl rfl rfl rfl ?_
    refine wq_l 21 d310_20 rfl rfl rfl rfl ?_
    refine wq_al 22 d310_21 rfl rfl rfl (bi) ?_
    rw [ef]
    refine wq_al 23 d310_22 rfl rfl rfl (rt_b (rr_T h) hi1) ?_
    rw [n1]
    refine wq_b 45 26 d310_23 rfl (by decide) rfl (fun c23 => ?_) (fun c23 => absurd (by decide) c23)
    refine wq_k 46 (-1) d310_45 (by decide) rfl ?_
    refine wq_s 48 d310_46 rfl rfl (Nat.le_of_ble_eq_true rfl) rfl rfl ?_
    refine wq_l 50 d310_48 rfl rfl rfl rfl ?_
    refine wq_b 86 53 d310_50 rfl (by decide) rfl (fun c50 => ?_) (fun c50 => absurd (by decide) c50)
    refine wq_k 87 (-1) d310_86 (by decide) rfl ?_
    refine wq_s 89 d310_87 rfl rfl (Nat.le_of_ble_eq_true rfl) rfl rfl ?_
    refine wq_k 90 (-1) d310_89 (by decide) rfl ?_
    refine wq_s 92 d310_90 rfl rfl (Nat.le_of_ble_eq_true rfl) rfl rfl ?_
    refine wq_l 93 d310_92 rfl rfl rfl rfl ?_
    refine wq_k 95 107 d310_93 (by decide) rfl ?_
    refine wq_b 104 98 d310_95 rfl (by decide) rfl (fun c95 => absurd c95 (by decide)) (fun c95 => ?_)
    refine wq_l 99 d310_98 rfl rfl rfl rfl ?_
    refine wq_k 101 108 d310_99 (by decide) rfl ?_
    refine wq_b 113 104 d310_101 rfl (by decide) rfl (fun c101 => ?_) (fun c101 => absurd (by decide) c101)
    refine wq_l 114 d310_113 rfl rfl rfl rfl ?_
    refine wq_k 116 109 d310_114 (by decide) rfl ?_
    refine wq_b 133 119 d310_116 rfl (by decide) rfl (fun c116 => ?_) (fun c116 => absurd (by decide) c116)
    refine wq_l 134 d310_133 rfl rfl rfl rfl ?_
    refine wq_k 136 104 d310_134 (by decide) rfl ?_
    refine wq_b 179 139 d310_136 rfl (by decide) rfl (fun c136 => ?_) (fun c136 => absurd (by decide) c136)
    refine wq_l 180 d310_179 rfl rfl rfl rfl ?_
    refine wq_k 182 100 d310_180 (by decide) rfl ?_
    refine wq_b 199 185 d310_182 rfl (by decide) rfl (fun c182 => absurd c182 (by decide)) (fun c182 => ?_)
    refine wq_l 186 d310_185 rfl rfl rfl rfl ?_
    refine wq_b 193 189 d310_186 rfl (by decide) rfl (fun c186 => ?_) (fun c186 => ?_)
    · -- pc 193
      refine wq_k 194 (-1) d310_193 (by decide) rfl ?_
      refine wq_s 196 d310_194 rfl rfl (Nat.le_of_ble_eq_true rfl) rfl rfl ?_
      refine wq_g 291 d310_196 (by decide) ?_
      have eL := (rw_0 t1 (rl_tyc l A i 1) (rl_tyc l A i 2)).trans (if_neg (Int32.not_lt.mpr c186))
      rw [show rl_std 0 _ _ _ = _ from eL] at hQ
      exact re310t h hi (Or.inl rfl) hQ
    · -- pc 189
      refine wq_l 190 d310_189 rfl rfl rfl rfl ?_
      refine wq_g 194 d310_190 (by decide) ?_
      refine wq_s 196 d310_194 rfl rfl (Nat.le_of_ble_eq_true rfl) rfl rfl ?_
      refine wq_g 291 d310_196 (by decide) ?_
      have eL := (rw_0 t1 (rl_tyc l A i 1) (rl_tyc l A i 2)).trans (if_pos (Int32.not_le.mp c186))
      rw [show rl_std 0 _ _ _ = _ from eL] at hQ
      exact re310t h hi (Or.inr t1) hQ
  · have hn : (rl_c l i).length = 1 := hn
    have e1 : ¬ i + 1 + rl_z l (i + 1) < i + rl_z l i := fun w => by
      rw [ec, rl_rowu k1 c3 w] at hn; exact absurd hn (by simp)
    rw [if_neg e1] at n1
    refine wq_m m310 (Nat.le_of_ble_eq_true rfl) (by decide) rfl ?_
    refine wq_l 1 d310_0 rfl rfl rfl rfl ?_
    refine wq_gr (ci := 10) (j := 23) (q := 56) 4 d310_1 rfl rfl rfl rfl ?_
    refine wq_l 5 d310_4 rfl rfl rfl rfl ?_
    refine wq_gr (ci := 10) (j := 19) (q := 52) 8 d310_5 rfl rfl rfl rfl ?_
    refine wq_l 9 d310_8 rfl rfl rfl rfl ?_
    refine wq_al 10 d310_9 rfl rfl rfl (bi) ?_
    rw [ef]
    refine wq_al 11 d310_10 rfl rfl rfl (rt_b (rr_T h) hi1) ?_
    rw [rt_t h hi1]
    refine wq_s 12 d310_11 rfl rfl (Nat.le_of_ble_eq_true rfl) rfl rfl ?_
    refine wq_l 13 d310_12 rfl rfl rfl rfl ?_
    refine wq_gr (ci := 10) (j := 21) (q := 54) 16 d310_13 rfl rfl rfl rfl ?_
    refine wq_l 17 d310_16 rfl rfl rfl rfl ?_
    refine wq_gr (ci := 10) (j := 19) (q := 52) 20 d310_17 rfl rfl rfl rfl ?_
    refine wq_l 21 d310_20 rfl rfl rfl rfl ?_
    refine wq_al 22 d310_21 rfl rfl rfl (bi) ?_
    rw [ef]
    refine wq_al 23 d310_22 rfl rfl rfl (rt_b (rr_T h) hi1) ?_
    rw [n1]
    refine wq_b 45 26 d310_23 rfl (by decide) rfl (fun c23 => ?_) (fun c23 => absurd (by decide) c23)
    refine wq_k 46 (-1) d310_45 (by decide) rfl ?_
    refine wq_s 48 d310_46 rfl rfl (Nat.le_of_ble_eq_true rfl) rfl rfl ?_
    refine wq_l 50 d310_48 rfl rfl rfl rfl ?_
    refine wq_b 86 53 d310_50 rfl (by decide) rfl (fun c50 => ?_) (fun c50 => absurd (by decide) c50)
    refine wq_k 87 (-1) d310_86 (by decide) rfl ?_
    refine wq_s 89 d310_87 rfl rfl (Nat.le_of_ble_eq_true rfl) rfl rfl ?_
    refine wq_k 90 (-1) d310_89 (by decide) rfl ?_
    refine wq_s 92 d310_90 rfl rfl (Nat.le_of_ble_eq_true rfl) rfl rfl ?_
    refine wq_l 93 d310_92 rfl rfl rfl rfl ?_
    refine wq_k 95 107 d310_93 (by decide) rfl ?_
    refine wq_b 104 98 d310_95 rfl (by decide) rfl (fun c95 => ?_) (fun c95 => absurd (by decide) c95)
    refine wq_l 105 d310_104 rfl rfl rfl rfl ?_
    refine wq_k 107 106 d310_105 (by decide) rfl ?_
    refine wq_a 108 d310_107 rfl rfl ?_
    refine wq_s 110 d310_108 rfl rfl (Nat.le_of_ble_eq_true rfl) rfl rfl ?_
    refine wq_g 291 d310_110 (by decide) ?_
    exact re310t h hi (Or.inr (Or.inr (Or.inl rfl))) hQ
  · have hn : (rl_c l i).length = 1 := hn
    have e1 : ¬ i + 1 + rl_z l (i + 1) < i + rl_z l i := fun w => by
      rw [ec, rl_rowu k1 c3 w] at hn; exact absurd hn (by simp)
    rw [if_neg e1] at n1
    refine wq_m m310 (Nat.le_of_ble_eq_true rfl) (by decide) rfl ?_
    refine wq_l 1 d310_0 rfl rfl rfl rfl ?_
    refine wq_gr (ci := 10) (j := 23) (q := 56) 4 d310_1 rfl rfl rfl rfl ?_
    refine wq_l 5 d310_4 rfl rfl rfl rfl ?_
    refine wq_gr (ci := 10) (j := 19) (q := 52) 8 d310_5 rfl rfl rfl rfl ?_
    refine wq_l 9 d310_8 rfl rfl rfl rfl ?_
    refine wq_al 10 d310_9 rfl rfl rfl (bi) ?_
    rw [ef]
    refine wq_al 11 d310_10 rfl rfl rfl (rt_b (rr_T h) hi1) ?_
    rw [rt_t h hi1]
    refine wq_s 12 d310_11 rfl rfl (Nat.le_of_ble_eq_true rfl) rfl rfl ?_
    refine wq_l 13 d310_12 rfl rfl rfl rfl ?_
    refine wq_gr (ci := 10) (j := 21) (q := 54) 16 d310_13 rfl rfl rfl rfl ?_
    refine wq_l 17 d310_16 rfl rfl rfl rfl ?_
    refine wq_gr (ci := 10) (j := 19) (q := 52) 20 d310_17 rfl rfl rfl rfl ?_
    refine wq_l 21 d310_20 rfl rfl rfl rfl ?_
    refine wq_al 22 d310_21 rfl rfl rfl (bi) ?_
    rw [ef]
    refine wq_al 23 d310_22 rfl rfl rfl (rt_b (rr_T h) hi1) ?_
    rw [n1]
    refine wq_b 45 26 d310_23 rfl (by decide) rfl (fun c23 => ?_) (fun c23 => absurd (by decide) c23)
    refine wq_k 46 (-1) d310_45 (by decide) rfl ?_
    refine wq_s 48 d310_46 rfl rfl (Nat.le_of_ble_eq_true rfl) rfl rfl ?_
    refine wq_l 50 d310_48 rfl rfl rfl rfl ?_
    refine wq_b 86 53 d310_50 rfl (by decide) rfl (fun c50 => ?_) (fun c50 => absurd (by decide) c50)
    refine wq_k 87 (-1) d310_86 (by decide) rfl ?_
    refine wq_s 89 d310_87 rfl rfl (Nat.le_of_ble_eq_true rfl) rfl rfl ?_
    refine wq_k 90 (-1) d310_89 (by decide) rfl ?_
    refine wq_s 92 d310_90 rfl rfl (Nat.le_of_ble_eq_true rfl) rfl rfl ?_
    refine wq_l 93 d310_92 rfl rfl rfl rfl ?_
    refine wq_k 95 107 d310_93 (by decide) rfl ?_
    refine wq_b 104 98 d310_95 rfl (by decide) rfl (fun c95 => absurd c95 (by decide)) (fun c95 => ?_)
    refine wq_l 99 d310_98 rfl rfl rfl rfl ?_
    refine wq_k 101 108 d310_99 (by decide) rfl ?_
    refine wq_b 113 104 d310_101 rfl (by decide) rfl (fun c101 => absurd c101 (by decide)) (fun c101 => ?_)
    refine wq_l 105 d310_104 rfl rfl rfl rfl ?_
    refine wq_k 107 106 d310_105 (by decide) rfl ?_
    refine wq_a 108 d310_107 rfl rfl ?_
    refine wq_s 110 d310_108 rfl rfl (Nat.le_of_ble_eq_true rfl) rfl rfl ?_
    refine wq_g 291 d310_110 (by decide) ?_
    exact re310t h hi (Or.inr (Or.inr (Or.inr rfl))) hQ
  · have hn : (rl_c l i).length = 1 := hn
    have e1 : ¬ i + 1 + rl_z l (i + 1) < i + rl_z l i := fun w => by
      rw [ec, rl_rowu k1 c3 w] at hn; exact absurd hn (by simp)
    rw [if_neg e1] at n1
    refine wq_m m310 (Nat.le_of_ble_eq_true rfl) (by decide) rfl ?_
    refine wq_l 1 d310_0 rfl rfl rfl rfl ?_
    refine wq_gr (ci := 10) (j := 23) (q := 56) 4 d310_1 rfl rfl rfl rfl ?_
    refine wq_l 5 d310_4 rfl rfl rfl rfl ?_
    refine wq_gr (ci := 10) (j := 19) (q := 52) 8 d310_5 rfl rfl rfl rfl ?_
    refine wq_l 9 d310_8 rfl rfl rfl rfl ?_
    refine wq_al 10 d310_9 rfl rfl rfl (bi) ?_
    rw [ef]
    refine wq_al 11 d310_10 rfl rfl rfl (rt_b (rr_T h) hi1) ?_
    rw [rt_t h hi1]
    refine wq_s 12 d310_11 rfl rfl (Nat.le_of_ble_eq_true rfl) rfl rfl ?_
    refine wq_l 13 d310_12 rfl rfl rfl rfl ?_
    refine wq_gr (ci := 10) (j := 21) (q := 54) 16 d310_13 rfl rfl rfl rfl ?_
    refine wq_l 17 d310_16 rfl rfl rfl rfl ?_
    refine wq_gr (ci := 10) (j := 19) (q := 52) 20 d310_17 rfl rfl rfl rfl ?_
    refine wq_l 21 d310_20 rfl rfl rfl rfl ?_
    refine wq_al 22 d310_21 rfl rfl rfl (bi) ?_
    rw [ef]
    refine wq_al 23 d310_22 rfl rfl rfl (rt_b (rr_T h) hi1) ?_
    rw [n1]
    refine wq_b 45 26 d310_23 rfl (by decide) rfl (fun c23 => ?_) (fun c23 => absurd (by decide) c23)
    refine wq_k 46 (-1) d310_45 (by decide) rfl ?_
    refine wq_s 48 d310_46 rfl rfl (Nat.le_of_ble_eq_true rfl) rfl rfl ?_
    refine wq_l 50 d310_48 rfl rfl rfl rfl ?_
    refine wq_b 86 53 d310_50 rfl (by decide) rfl (fun c50 => ?_) (fun c50 => absurd (by decide) c50)
    refine wq_k 87 (-1) d310_86 (by decide) rfl ?_
    refine wq_s 89 d310_87 rfl rfl (Nat.le_of_ble_eq_true rfl) rfl rfl ?_
    refine wq_k 90 (-1) d310_89 (by decide) rfl ?_
    refine wq_s 92 d310_90 rfl rfl (Nat.le_of_ble_eq_true rfl) rfl rfl ?_
    refine wq_l 93 d310_92 rfl rfl rfl rfl ?_
    refine wq_k 95 107 d310_93 (by decide) rfl ?_
    refine wq_b 104 98 d310_95 rfl (by decide) rfl (fun c95 => absurd c95 (by decide)) (fun c95 => ?_)
    refine wq_l 99 d310_98 rfl rfl rfl rfl ?_
    refine wq_k 101 108 d310_99 (by decide) rfl ?_
    refine wq_b 113 104 d310_101 rfl (by decide) rfl (fun c101 => ?_) (fun c101 => absurd (by decide) c101)
    refine wq_l 114 d310_113 rfl rfl rfl rfl ?_
    refine wq_k 116 109 d310_114 (by decide) rfl ?_
    refine wq_b 133 119 d310_116 rfl (by decide) rfl (fun c116 => absurd c116 (by decide)) (fun c116 => ?_)
    refine wq_l 120 d310_119 rfl rfl rfl rfl ?_
    refine wq_b 127 123 d310_120 rfl (by decide) rfl (fun c120 => ?_) (fun c120 => ?_)
    · -- pc 127
      refine wq_k 128 (-1) d310_127 (by decide) rfl ?_
      refine wq_s 130 d310_128 rfl rfl (Nat.le_of_ble_eq_true rfl) rfl rfl ?_
      refine wq_g 291 d310_130 (by decide) ?_
      have eL := (rw_9 t1).trans (if_neg (Int32.not_lt.mpr c120))
      rw [show rl_std 9 _ _ _ = _ from eL] at hQ
      exact re310t h hi (Or.inl rfl) hQ
    · -- pc 123
      refine wq_k 124 0 d310_123 (by decide) rfl ?_
      refine wq_g 128 d310_124 (by decide) ?_
      refine wq_s 130 d310_128 rfl rfl (Nat.le_of_ble_eq_true rfl) rfl rfl ?_
      refine wq_g 291 d310_130 (by decide) ?_
      have eL := (rw_9 t1).trans (if_pos (Int32.not_le.mp c120))
      rw [show rl_std 9 _ _ _ = _ from eL] at hQ
      exact re310t h hi (Or.inr (Or.inl rfl)) hQ
  · have hn : (rl_c l i).length = 2 := hn
    have e1 : i + 1 + rl_z l (i + 1) < i + rl_z l i := by
      rcases Nat.lt_or_ge (i + 1 + rl_z l (i + 1)) (i + rl_z l i) with w | w
      · exact w
      · rw [ec, rl_row0 (by omega)] at hn; exact absurd hn (by simp)
    rw [if_pos e1] at n1
    have ec2 : rl_c l i = (i + 1) :: (i + 1 + rl_z l (i + 1)) :: rl_row l (i + 1 + rl_z l (i + 1) + rl_z l (i + 1 + rl_z l (i + 1))) (i + rl_z l i) := by rw [ec, rl_rowu k1 c3 e1]
    obtain ⟨d1, d2, d3⟩ := rl_clz c3 e1
    have hi2 : i + 1 + rl_z l (i + 1) < l.length := by omega
    have m2 : i + 1 + rl_z l (i + 1) ∈ rl_c l i := by rw [ec2]; exact List.mem_cons_of_mem _ List.mem_cons_self
    have t2 := ht _ m2
    have n2 := rt_n (rr_T h) hG hi m2
    have y2 : rl_tyc l A i 1 = A.2.1 (i + 1 + rl_z l (i + 1)) := by unfold rl_tyc; rw [if_pos (by omega), ec2]; rfl
    rw [y2] at hQ
    have lt_no : ¬ nI (a (i + 1 + rl_z l (i + 1))) < 0 := by
      have := ((rr_T h).2.2.1 _ hi2).1
      rw [i_lt, nI_toInt (by omega)]; show ¬ (_ : Int) < 0; omega
    generalize i + 1 + rl_z l (i + 1) = j2 at *
    have e2 : ¬ j2 + rl_z l j2 < i + rl_z l i := fun w => by
      rw [ec2, rl_rowu k1 d3 w] at hn; exact absurd hn (by simp)
    rw [if_neg e2] at n2
    refine wq_m m310 (Nat.le_of_ble_eq_true rfl) (by decide) rfl ?_
    refine wq_l 1 d310_0 rfl rfl rfl rfl ?_
    refine wq_gr (ci := 10) (j := 23) (q := 56) 4 d310_1 rfl rfl rfl rfl ?_
    refine wq_l 5 d310_4 rfl rfl rfl rfl ?_
    refine wq_gr (ci := 10) (j := 19) (q := 52) 8 d310_5 rfl rfl rfl rfl ?_
    refine wq_l 9 d310_8 rfl rfl rfl rfl ?_
    refine wq_al 10 d310_9 rfl rfl rfl (bi) ?_
    rw [ef]
    refine wq_al 11 d310_10 rfl rfl rfl (rt_b (rr_T h) hi1) ?_
    rw [rt_t h hi1]
    refine wq_s 12 d310_11 rfl rfl (Nat.le_of_ble_eq_true rfl) rfl rfl ?_
    refine wq_l 13 d310_12 rfl rfl rfl rfl ?_
    refine wq_gr (ci := 10) (j := 21) (q := 54) 16 d310_13 rfl rfl rfl rfl ?_
    refine wq_l 17 d310_16 rfl rfl rfl rfl ?_
    refine wq_gr (ci := 10) (j := 19) (q := 52) 20 d310_17 rfl rfl rfl rfl ?_
    refine wq_l 21 d310_20 rfl rfl rfl rfl ?_
    refine wq_al 22 d310_21 rfl rfl rfl (bi) ?_
    rw [ef]
    refine wq_al 23 d310_22 rfl rfl rfl (rt_b (rr_T h) hi1) ?_
    rw [n1]
    refine wq_b 45 26 d310_23 rfl (by decide) rfl (fun c23 => absurd c23 (lt_no)) (fun c23 => ?_)
    refine wq_l 27 d310_26 rfl rfl rfl rfl ?_
    refine wq_gr (ci := 10) (j := 23) (q := 56) 30 d310_27 rfl rfl rfl rfl ?_
    refine wq_l 31 d310_30 rfl rfl rfl rfl ?_
    refine wq_gr (ci := 10) (j := 21) (q := 54) 34 d310_31 rfl rfl rfl rfl ?_
    refine wq_l 35 d310_34 rfl rfl rfl rfl ?_
    refine wq_gr (ci := 10) (j := 19) (q := 52) 38 d310_35 rfl rfl rfl rfl ?_
    refine wq_l 39 d310_38 rfl rfl rfl rfl ?_
    refine wq_al 40 d310_39 rfl rfl rfl (bi) ?_
    rw [ef]
    refine wq_al 41 d310_40 rfl rfl rfl (rt_b (rr_T h) hi1) ?_
    rw [n1]
    refine wq_al 42 d310_41 rfl rfl rfl (rt_b (rr_T h) hi2) ?_
    rw [rt_t h hi2]
    refine wq_g 46 d310_42 (by decide) ?_
    refine wq_s 48 d310_46 rfl rfl (Nat.le_of_ble_eq_true rfl) rfl rfl ?_
    refine wq_l 50 d310_48 rfl rfl rfl rfl ?_
    refine wq_b 86 53 d310_50 rfl (by decide) rfl (fun c50 => absurd c50 (rw_nn t2)) (fun c50 => ?_)
    refine wq_l 54 d310_53 rfl rfl rfl rfl ?_
    refine wq_gr (ci := 10) (j := 21) (q := 54) 57 d310_54 rfl rfl rfl rfl ?_
    refine wq_l 58 d310_57 rfl rfl rfl rfl ?_
    refine wq_gr (ci := 10) (j := 21) (q := 54) 61 d310_58 rfl rfl rfl rfl ?_
    refine wq_l 62 d310_61 rfl rfl rfl rfl ?_
    refine wq_gr (ci := 10) (j := 19) (q := 52) 65 d310_62 rfl rfl rfl rfl ?_
    refine wq_l 66 d310_65 rfl rfl rfl rfl ?_
    refine wq_al 67 d310_66 rfl rfl rfl (bi) ?_
    rw [ef]
    refine wq_al 68 d310_67 rfl rfl rfl (rt_b (rr_T h) hi1) ?_
    rw [n1]
    refine wq_al 69 d310_68 rfl rfl rfl (rt_b (rr_T h) hi2) ?_
    rw [n2]
    refine wq_b 86 72 d310_69 rfl (by decide) rfl (fun c69 => ?_) (fun c69 => absurd (by decide) c69)
    refine wq_k 87 (-1) d310_86 (by decide) rfl ?_
    refine wq_s 89 d310_87 rfl rfl (Nat.le_of_ble_eq_true rfl) rfl rfl ?_
    refine wq_k 90 (-1) d310_89 (by decide) rfl ?_
    refine wq_s 92 d310_90 rfl rfl (Nat.le_of_ble_eq_true rfl) rfl rfl ?_
    refine wq_l 93 d310_92 rfl rfl rfl rfl ?_
    refine wq_k 95 107 d310_93 (by decide) rfl ?_
    refine wq_b 104 98 d310_95 rfl (by decide) rfl (fun c95 => absurd c95 (by decide)) (fun c95 => ?_)
    refine wq_l 99 d310_98 rfl rfl rfl rfl ?_
    refine wq_k 101 108 d310_99 (by decide) rfl ?_
    refine wq_b 113 104 d310_101 rfl (by decide) rfl (fun c101 => ?_) (fun c101 => absurd (by decide) c101)
    refine wq_l 114 d310_113 rfl rfl rfl rfl ?_
    refine wq_k 116 109 d310_114 (by decide) rfl ?_
    refine wq_b 133 119 d310_116 rfl (by decide) rfl (fun c116 => ?_) (fun c116 => absurd (by decide) c116)
    refine wq_l 134 d310_133 rfl rfl rfl rfl ?_
    refine wq_k 136 104 d310_134 (by decide) rfl ?_
    refine wq_b 179 139 d310_136 rfl (by decide) rfl (fun c136 => ?_) (fun c136 => absurd (by decide) c136)
    refine wq_l 180 d310_179 rfl rfl rfl rfl ?_
    refine wq_k 182 100 d310_180 (by decide) rfl ?_
    refine wq_b 199 185 d310_182 rfl (by decide) rfl (fun c182 => ?_) (fun c182 => absurd (by decide) c182)
    refine wq_l 200 d310_199 rfl rfl rfl rfl ?_
    refine wq_k 202 105 d310_200 (by decide) rfl ?_
    refine wq_b 211 205 d310_202 rfl (by decide) rfl (fun c202 => absurd c202 (by decide)) (fun c202 => ?_)
    refine wq_l 206 d310_205 rfl rfl rfl rfl ?_
    refine wq_k 208 106 d310_206 (by decide) rfl ?_
    refine wq_b 230 211 d310_208 rfl (by decide) rfl (fun c208 => ?_) (fun c208 => absurd (by decide) c208)
    refine wq_l 231 d310_230 rfl rfl rfl rfl ?_
    refine wq_k 233 103 d310_231 (by decide) rfl ?_
    refine wq_b 270 236 d310_233 rfl (by decide) rfl (fun c233 => ?_) (fun c233 => absurd (by decide) c233)
    refine wq_l 271 d310_270 rfl rfl rfl rfl ?_
    refine wq_b 288 274 d310_271 rfl (by decide) rfl (fun c271 => ?_) (fun c271 => ?_)
    · -- pc 288
      refine wq_k 289 (-1) d310_288 (by decide) rfl ?_
      refine wq_s 291 d310_289 rfl rfl (Nat.le_of_ble_eq_true rfl) rfl rfl ?_
      have eL := (rw_1 t1 t2).trans (if_neg (fun z => absurd z.1 (Int32.not_lt.mpr c271)))
      rw [show rl_std 1 _ _ _ = _ from eL] at hQ
      exact re310t h hi (Or.inl rfl) hQ
    · -- pc 274
      refine wq_l 276 d310_274 rfl rfl rfl rfl ?_
      refine wq_b 288 279 d310_276 rfl (by decide) rfl (fun c276 => ?_) (fun c276 => ?_)
      · -- pc 288
        refine wq_k 289 (-1) d310_288 (by decide) rfl ?_
        refine wq_s 291 d310_289 rfl rfl (Nat.le_of_ble_eq_true rfl) rfl rfl ?_
        have eL := (rw_1 t1 t2).trans (if_neg (fun z => absurd z.2 (Int32.not_lt.mpr c276)))
        rw [show rl_std 1 _ _ _ = _ from eL] at hQ
        exact re310t h hi (Or.inl rfl) hQ
      · -- pc 279
        refine wq_l 280 d310_279 rfl rfl rfl rfl ?_
        refine wq_l 282 d310_280 rfl rfl rfl rfl ?_
        refine wq_vs 285 [_, _] d310_282 rfl rfl m311 rfl (Nat.le_of_ble_eq_true rfl) rfl (sp311 ?_)
        refine wq_g 289 d310_285 (by decide) ?_
        refine wq_s 291 d310_289 rfl rfl (Nat.le_of_ble_eq_true rfl) rfl rfl ?_
        have eL := (rw_1 t1 t2).trans (if_pos ⟨Int32.not_le.mp c271, Int32.not_le.mp c276⟩)
        rw [show rl_std 1 _ _ _ = _ from eL] at hQ
        exact re310t h hi (Or.inr (rw_m t1 t2)) hQ
  · have hn : (rl_c l i).length = 2 := hn
    have e1 : i + 1 + rl_z l (i + 1) < i + rl_z l i := by
      rcases Nat.lt_or_ge (i + 1 + rl_z l (i + 1)) (i + rl_z l i) with w | w
      · exact w
      · rw [ec, rl_row0 (by omega)] at hn; exact absurd hn (by simp)
    rw [if_pos e1] at n1
    have ec2 : rl_c l i = (i + 1) :: (i + 1 + rl_z l (i + 1)) :: rl_row l (i + 1 + rl_z l (i + 1) + rl_z l (i + 1 + rl_z l (i + 1))) (i + rl_z l i) := by rw [ec, rl_rowu k1 c3 e1]
    obtain ⟨d1, d2, d3⟩ := rl_clz c3 e1
    have hi2 : i + 1 + rl_z l (i + 1) < l.length := by omega
    have m2 : i + 1 + rl_z l (i + 1) ∈ rl_c l i := by rw [ec2]; exact List.mem_cons_of_mem _ List.mem_cons_self
    have t2 := ht _ m2
    have n2 := rt_n (rr_T h) hG hi m2
    have y2 : rl_tyc l A i 1 = A.2.1 (i + 1 + rl_z l (i + 1)) := by unfold rl_tyc; rw [if_pos (by omega), ec2]; rfl
    rw [y2] at hQ
    have lt_no : ¬ nI (a (i + 1 + rl_z l (i + 1))) < 0 := by
      have := ((rr_T h).2.2.1 _ hi2).1
      rw [i_lt, nI_toInt (by omega)]; show ¬ (_ : Int) < 0; omega
    generalize i + 1 + rl_z l (i + 1) = j2 at *
    have e2 : ¬ j2 + rl_z l j2 < i + rl_z l i := fun w => by
      rw [ec2, rl_rowu k1 d3 w] at hn; exact absurd hn (by simp)
    rw [if_neg e2] at n2
    refine wq_m m310 (Nat.le_of_ble_eq_true rfl) (by decide) rfl ?_
    refine wq_l 1 d310_0 rfl rfl rfl rfl ?_
    refine wq_gr (ci := 10) (j := 23) (q := 56) 4 d310_1 rfl rfl rfl rfl ?_
    refine wq_l 5 d310_4 rfl rfl rfl rfl ?_
    refine wq_gr (ci := 10) (j := 19) (q := 52) 8 d310_5 rfl rfl rfl rfl ?_
    refine wq_l 9 d310_8 rfl rfl rfl rfl ?_
    refine wq_al 10 d310_9 rfl rfl rfl (bi) ?_
    rw [ef]
    refine wq_al 11 d310_10 rfl rfl rfl (rt_b (rr_T h) hi1) ?_
    rw [rt_t h hi1]
    refine wq_s 12 d310_11 rfl rfl (Nat.le_of_ble_eq_true rfl) rfl rfl ?_
    refine wq_l 13 d310_12 rfl rfl rfl rfl ?_
    refine wq_gr (ci := 10) (j := 21) (q := 54) 16 d310_13 rfl rfl rfl rfl ?_
    refine wq_l 17 d310_16 rfl rfl rfl rfl ?_
    refine wq_gr (ci := 10) (j := 19) (q := 52) 20 d310_17 rfl rfl rfl rfl ?_
    refine wq_l 21 d310_20 rfl rfl rfl rfl ?_
    refine wq_al 22 d310_21 rfl rfl rfl (bi) ?_
    rw [ef]
    refine wq_al 23 d310_22 rfl rfl rfl (rt_b (rr_T h) hi1) ?_
    rw [n1]
    refine wq_b 45 26 d310_23 rfl (by decide) rfl (fun c23 => absurd c23 (lt_no)) (fun c23 => ?_)
    refine wq_l 27 d310_26 rfl rfl rfl rfl ?_
    refine wq_gr (ci := 10) (j := 23) (q := 56) 30 d310_27 rfl rfl rfl rfl ?_
    refine wq_l 31 d310_30 rfl rfl rfl rfl ?_
    refine wq_gr (ci := 10) (j := 21) (q := 54) 34 d310_31 rfl rfl rfl rfl ?_
    refine wq_l 35 d310_34 rfl rfl rfl rfl ?_
    refine wq_gr (ci := 10) (j := 19) (q := 52) 38 d310_35 rfl rfl rfl rfl ?_
    refine wq_l 39 d310_38 rfl rfl rfl rfl ?_
    refine wq_al 40 d310_39 rfl rfl rfl (bi) ?_
    rw [ef]
    refine wq_al 41 d310_40 rfl rfl rfl (rt_b (rr_T h) hi1) ?_
    rw [n1]
    refine wq_al 42 d310_41 rfl rfl rfl (rt_b (rr_T h) hi2) ?_
    rw [rt_t h hi2]
    refine wq_g 46 d310_42 (by decide) ?_
    refine wq_s 48 d310_46 rfl rfl (Nat.le_of_ble_eq_true rfl) rfl rfl ?_
    refine wq_l 50 d310_48 rfl rfl rfl rfl ?_
    refine wq_b 86 53 d310_50 rfl (by decide) rfl (fun c50 => absurd c50 (rw_nn t2)) (fun c50 => ?_)
    refine wq_l 54 d310_53 rfl rfl rfl rfl ?_
    refine wq_gr (ci := 10) (j := 21) (q := 54) 57 d310_54 rfl rfl rfl rfl ?_
    refine wq_l 58 d310_57 rfl rfl rfl rfl ?_
    refine wq_gr (ci := 10) (j := 21) (q := 54) 61 d310_58 rfl rfl rfl rfl ?_
    refine wq_l 62 d310_61 rfl rfl rfl rfl ?_
    refine wq_gr (ci := 10) (j := 19) (q := 52) 65 d310_62 rfl rfl rfl rfl ?_
    refine wq_l 66 d310_65 rfl rfl rfl rfl ?_
    refine wq_al 67 d310_66 rfl rfl rfl (bi) ?_
    rw [ef]
    refine wq_al 68 d310_67 rfl rfl rfl (rt_b (rr_T h) hi1) ?_
    rw [n1]
    refine wq_al 69 d310_68 rfl rfl rfl (rt_b (rr_T h) hi2) ?_
    rw [n2]
    refine wq_b 86 72 d310_69 rfl (by decide) rfl (fun c69 => ?_) (fun c69 => absurd (by decide) c69)
    refine wq_k 87 (-1) d310_86 (by decide) rfl ?_
    refine wq_s 89 d310_87 rfl rfl (Nat.le_of_ble_eq_true rfl) rfl rfl ?_
    refine wq_k 90 (-1) d310_89 (by decide) rfl ?_
    refine wq_s 92 d310_90 rfl rfl (Nat.le_of_ble_eq_true rfl) rfl rfl ?_
    refine wq_l 93 d310_92 rfl rfl rfl rfl ?_
    refine wq_k 95 107 d310_93 (by decide) rfl ?_
    refine wq_b 104 98 d310_95 rfl (by decide) rfl (fun c95 => absurd c95 (by decide)) (fun c95 => ?_)
    refine wq_l 99 d310_98 rfl rfl rfl rfl ?_
    refine wq_k 101 108 d310_99 (by decide) rfl ?_
    refine wq_b 113 104 d310_101 rfl (by decide) rfl (fun c101 => ?_) (fun c101 => absurd (by decide) c101)
    refine wq_l 114 d310_113 rfl rfl rfl rfl ?_
    refine wq_k 116 109 d310_114 (by decide) rfl ?_
    refine wq_b 133 119 d310_116 rfl (by decide) rfl (fun c116 => ?_) (fun c116 => absurd (by decide) c116)
    refine wq_l 134 d310_133 rfl rfl rfl rfl ?_
    refine wq_k 136 104 d310_134 (by decide) rfl ?_
    refine wq_b 179 139 d310_136 rfl (by decide) rfl (fun c136 => ?_) (fun c136 => absurd (by decide) c136)
    refine wq_l 180 d310_179 rfl rfl rfl rfl ?_
    refine wq_k 182 100 d310_180 (by decide) rfl ?_
    refine wq_b 199 185 d310_182 rfl (by decide) rfl (fun c182 => ?_) (fun c182 => absurd (by decide) c182)
    refine wq_l 200 d310_199 rfl rfl rfl rfl ?_
    refine wq_k 202 105 d310_200 (by decide) rfl ?_
    refine wq_b 211 205 d310_202 rfl (by decide) rfl (fun c202 => absurd c202 (by decide)) (fun c202 => ?_)
    refine wq_l 206 d310_205 rfl rfl rfl rfl ?_
    refine wq_k 208 106 d310_206 (by decide) rfl ?_
    refine wq_b 230 211 d310_208 rfl (by decide) rfl (fun c208 => ?_) (fun c208 => absurd (by decide) c208)
    refine wq_l 231 d310_230 rfl rfl rfl rfl ?_
    refine wq_k 233 103 d310_231 (by decide) rfl ?_
    refine wq_b 270 236 d310_233 rfl (by decide) rfl (fun c233 => ?_) (fun c233 => absurd (by decide) c233)
    refine wq_l 271 d310_270 rfl rfl rfl rfl ?_
    refine wq_b 288 274 d310_271 rfl (by decide) rfl (fun c271 => ?_) (fun c271 => ?_)
    · -- pc 288
      refine wq_k 289 (-1) d310_288 (by decide) rfl ?_
      refine wq_s 291 d310_289 rfl rfl (Nat.le_of_ble_eq_true rfl) rfl rfl ?_
      have eL := (rw_1 t1 t2).trans (if_neg (fun z => absurd z.1 (Int32.not_lt.mpr c271)))
      rw [show rl_std 2 _ _ _ = _ from eL] at hQ
      exact re310t h hi (Or.inl rfl) hQ
    · -- pc 274
      refine wq_l 276 d310_274 rfl rfl rfl rfl ?_
      refine wq_b 288 279 d310_276 rfl (by decide) rfl (fun c276 => ?_) (fun c276 => ?_)
      · -- pc 288
        refine wq_k 289 (-1) d310_288 (by decide) rfl ?_
        refine wq_s 291 d310_289 rfl rfl (Nat.le_of_ble_eq_true rfl) rfl rfl ?_
        have eL := (rw_1 t1 t2).trans (if_neg (fun z => absurd z.2 (Int32.not_lt.mpr c276)))
        rw [show rl_std 2 _ _ _ = _ from eL] at hQ
        exact re310t h hi (Or.inl rfl) hQ
      · -- pc 279
        refine wq_l 280 d310_279 rfl rfl rfl rfl ?_
        refine wq_l 282 d310_280 rfl rfl rfl rfl ?_
        refine wq_vs 285 [_, _] d310_282 rfl rfl m311 rfl (Nat.le_of_ble_eq_true rfl) rfl (sp311 ?_)
        refine wq_g 289 d310_285 (by decide) ?_
        refine wq_s 291 d310_289 rfl rfl (Nat.le_of_ble_eq_true rfl) rfl rfl ?_
        have eL := (rw_1 t1 t2).trans (if_pos ⟨Int32.not_le.mp c271, Int32.not_le.mp c276⟩)
        rw [show rl_std 2 _ _ _ = _ from eL] at hQ
        exact re310t h hi (Or.inr (rw_m t1 t2)) hQ
  · have hn : (rl_c l i).length = 2 := hn
    have e1 : i + 1 + rl_z l (i + 1) < i + rl_z l i := by
      rcases Nat.lt_or_ge (i + 1 + rl_z l (i + 1)) (i + rl_z l i) with w | w
      · exact w
      · rw [ec, rl_row0 (by omega)] at hn; exact absurd hn (by simp)
    rw [if_pos e1] at n1
    have ec2 : rl_c l i = (i + 1) :: (i + 1 + rl_z l (i + 1)) :: rl_row l (i + 1 + rl_z l (i + 1) + rl_z l (i + 1 + rl_z l (i + 1))) (i + rl_z l i) := by rw [ec, rl_rowu k1 c3 e1]
    obtain ⟨d1, d2, d3⟩ := rl_clz c3 e1
    have hi2 : i + 1 + rl_z l (i + 1) < l.length := by omega
    have m2 : i + 1 + rl_z l (i + 1) ∈ rl_c l i := by rw [ec2]; exact List.mem_cons_of_mem _ List.mem_cons_self
    have t2 := ht _ m2
    have n2 := rt_n (rr_T h) hG hi m2
    have y2 : rl_tyc l A i 1 = A.2.1 (i + 1 + rl_z l (i + 1)) := by unfold rl_tyc; rw [if_pos (by omega), ec2]; rfl
    rw [y2] at hQ
    have lt_no : ¬ nI (a (i + 1 + rl_z l (i + 1))) < 0 := by
      have := ((rr_T h).2.2.1 _ hi2).1
      rw [i_lt, nI_toInt (by omega)]; show ¬ (_ : Int) < 0; omega
    generalize i + 1 + rl_z l (i + 1) = j2 at *
    have e2 : ¬ j2 + rl_z l j2 < i + rl_z l i := fun w => by
      rw [ec2, rl_rowu k1 d3 w] at hn; exact absurd hn (by simp)
    rw [if_neg e2] at n2
    refine wq_m m310 (Nat.le_of_ble_eq_true rfl) (by decide) rfl ?_
    refine wq_l 1 d310_0 rfl rfl rfl rfl ?_
    refine wq_gr (ci := 10) (j := 23) (q := 56) 4 d310_1 rfl rfl rfl rfl ?_
    refine wq_l 5 d310_4 rfl rfl rfl rfl ?_
    refine wq_gr (ci := 10) (j := 19) (q := 52) 8 d310_5 rfl rfl rfl rfl ?_
    refine wq_l 9 d310_8 rfl rfl rfl rfl ?_
    refine wq_al 10 d310_9 rfl rfl rfl (bi) ?_
    rw [ef]
    refine wq_al 11 d310_10 rfl rfl rfl (rt_b (rr_T h) hi1) ?_
    rw [rt_t h hi1]
    refine wq_s 12 d310_11 rfl rfl (Nat.le_of_ble_eq_true rfl) rfl rfl ?_
    refine wq_l 13 d310_12 rfl rfl rfl rfl ?_
    refine wq_gr (ci := 10) (j := 21) (q := 54) 16 d310_13 rfl rfl rfl rfl ?_
    refine wq_l 17 d310_16 rfl rfl rfl rfl ?_
    refine wq_gr (ci := 10) (j := 19) (q := 52) 20 d310_17 rfl rfl rfl rfl ?_
    refine wq_l 21 d310_20 rfl rfl rfl rfl ?_
    refine wq_al 22 d310_21 rfl rfl rfl (bi) ?_
    rw [ef]
    refine wq_al 23 d310_22 rfl rfl rfl (rt_b (rr_T h) hi1) ?_
    rw [n1]
    refine wq_b 45 26 d310_23 rfl (by decide) rfl (fun c23 => absurd c23 (lt_no)) (fun c23 => ?_)
    refine wq_l 27 d310_26 rfl rfl rfl rfl ?_
    refine wq_gr (ci := 10) (j := 23) (q := 56) 30 d310_27 rfl rfl rfl rfl ?_
    refine wq_l 31 d310_30 rfl rfl rfl rfl ?_
    refine wq_gr (ci := 10) (j := 21) (q := 54) 34 d310_31 rfl rfl rfl rfl ?_
    refine wq_l 35 d310_34 rfl rfl rfl rfl ?_
    refine wq_gr (ci := 10) (j := 19) (q := 52) 38 d310_35 rfl rfl rfl rfl ?_
    refine wq_l 39 d310_38 rfl rfl rfl rfl ?_
    refine wq_al 40 d310_39 rfl rfl rfl (bi) ?_
    rw [ef]
    refine wq_al 41 d310_40 rfl rfl rfl (rt_b (rr_T h) hi1) ?_
    rw [n1]
    refine wq_al 42 d310_41 rfl rfl rfl (rt_b (rr_T h) hi2) ?_
    rw [rt_t h hi2]
    refine wq_g 46 d310_42 (by decide) ?_
    refine wq_s 48 d310_46 rfl rfl (Nat.le_of_ble_eq_true rfl) rfl rfl ?_
    refine wq_l 50 d310_48 rfl rfl rfl rfl ?_
    refine wq_b 86 53 d310_50 rfl (by decide) rfl (fun c50 => absurd c50 (rw_nn t2)) (fun c50 => ?_)
    refine wq_l 54 d310_53 rfl rfl rfl rfl ?_
    refine wq_gr (ci := 10) (j := 21) (q := 54) 57 d310_54 rfl rfl rfl rfl ?_
    refine wq_l 58 d310_57 rfl rfl rfl rfl ?_
    refine wq_gr (ci := 10) (j := 21) (q := 54) 61 d310_58 rfl rfl rfl rfl ?_
    refine wq_l 62 d310_61 rfl rfl rfl rfl ?_
    refine wq_gr (ci := 10) (j := 19) (q := 52) 65 d310_62 rfl rfl rfl rfl ?_
    refine wq_l 66 d310_65 rfl rfl rfl rfl ?_
    refine wq_al 67 d310_66 rfl rfl rfl (bi) ?_
    rw [ef]
    refine wq_al 68 d310_67 rfl rfl rfl (rt_b (rr_T h) hi1) ?_
    rw [n1]
    refine wq_al 69 d310_68 rfl rfl rfl (rt_b (rr_T h) hi2) ?_
    rw [n2]
    refine wq_b 86 72 d310_69 rfl (by decide) rfl (fun c69 => ?_) (fun c69 => absurd (by decide) c69)
    refine wq_k 87 (-1) d310_86 (by decide) rfl ?_
    refine wq_s 89 d310_87 rfl rfl (Nat.le_of_ble_eq_true rfl) rfl rfl ?_
    refine wq_k 90 (-1) d310_89 (by decide) rfl ?_
    refine wq_s 92 d310_90 rfl rfl (Nat.le_of_ble_eq_true rfl) rfl rfl ?_
    refine wq_l 93 d310_92 rfl rfl rfl rfl ?_
    refine wq_k 95 107 d310_93 (by decide) rfl ?_
    refine wq_b 104 98 d310_95 rfl (by decide) rfl (fun c95 => absurd c95 (by decide)) (fun c95 => ?_)
    refine wq_l 99 d310_98 rfl rfl rfl rfl ?_
    refine wq_k 101 108 d310_99 (by decide) rfl ?_
    refine wq_b 113 104 d310_101 rfl (by decide) rfl (fun c101 => ?_) (fun c101 => absurd (by decide) c101)
    refine wq_l 114 d310_113 rfl rfl rfl rfl ?_
    refine wq_k 116 109 d310_114 (by decide) rfl ?_
    refine wq_b 133 119 d310_116 rfl (by decide) rfl (fun c116 => ?_) (fun c116 => absurd (by decide) c116)
    refine wq_l 134 d310_133 rfl rfl rfl rfl ?_
    refine wq_k 136 104 d310_134 (by decide) rfl ?_
    refine wq_b 179 139 d310_136 rfl (by decide) rfl (fun c136 => ?_) (fun c136 => absurd (by decide) c136)
    refine wq_l 180 d310_179 rfl rfl rfl rfl ?_
    refine wq_k 182 100 d310_180 (by decide) rfl ?_
    refine wq_b 199 185 d310_182 rfl (by decide) rfl (fun c182 => ?_) (fun c182 => absurd (by decide) c182)
    refine wq_l 200 d310_199 rfl rfl rfl rfl ?_
    refine wq_k 202 105 d310_200 (by decide) rfl ?_
    refine wq_b 211 205 d310_202 rfl (by decide) rfl (fun c202 => ?_) (fun c202 => absurd (by decide) c202)
    refine wq_l 212 d310_211 rfl rfl rfl rfl ?_
    refine wq_b 224 215 d310_212 rfl (by decide) rfl (fun c212 => ?_) (fun c212 => ?_)
    · -- pc 224
      refine wq_k 225 (-1) d310_224 (by decide) rfl ?_
      refine wq_s 227 d310_225 rfl rfl (Nat.le_of_ble_eq_true rfl) rfl rfl ?_
      refine wq_g 291 d310_227 (by decide) ?_
      have eL := (rw_5 t1 t2).trans (if_neg (fun z => absurd z.1 (Int32.not_lt.mpr c212)))
      rw [show rl_std 5 _ _ _ = _ from eL] at hQ
      exact re310t h hi (Or.inl rfl) hQ
    · -- pc 215
      refine wq_l 217 d310_215 rfl rfl rfl rfl ?_
      refine wq_b 224 220 d310_217 rfl (by decide) rfl (fun c217 => ?_) (fun c217 => ?_)
      · -- pc 224
        refine wq_k 225 (-1) d310_224 (by decide) rfl ?_
        refine wq_s 227 d310_225 rfl rfl (Nat.le_of_ble_eq_true rfl) rfl rfl ?_
        refine wq_g 291 d310_227 (by decide) ?_
        have eL := (rw_5 t1 t2).trans (if_neg (fun z => absurd z.2 (Int32.not_lt.mpr c217)))
        rw [show rl_std 5 _ _ _ = _ from eL] at hQ
        exact re310t h hi (Or.inl rfl) hQ
      · -- pc 220
        refine wq_l 221 d310_220 rfl rfl rfl rfl ?_
        refine wq_g 225 d310_221 (by decide) ?_
        refine wq_s 227 d310_225 rfl rfl (Nat.le_of_ble_eq_true rfl) rfl rfl ?_
        refine wq_g 291 d310_227 (by decide) ?_
        have eL := (rw_5 t1 t2).trans (if_pos ⟨Int32.not_le.mp c212, Int32.not_le.mp c217⟩)
        rw [show rl_std 5 _ _ _ = _ from eL] at hQ
        exact re310t h hi (Or.inr t1) hQ
  · have hn : (rl_c l i).length = 2 := hn
    have e1 : i + 1 + rl_z l (i + 1) < i + rl_z l i := by
      rcases Nat.lt_or_ge (i + 1 + rl_z l (i + 1)) (i + rl_z l i) with w | w
      · exact w
      · rw [ec, rl_row0 (by omega)] at hn; exact absurd hn (by simp)
    rw [if_pos e1] at n1
    have ec2 : rl_c l i = (i + 1) :: (i + 1 + rl_z l (i + 1)) :: rl_row l (i + 1 + rl_z l (i + 1) + rl_z l (i + 1 + rl_z l (i + 1))) (i + rl_z l i) := by rw [ec, rl_rowu k1 c3 e1]
    obtain ⟨d1, d2, d3⟩ := rl_clz c3 e1
    have hi2 : i + 1 + rl_z l (i + 1) < l.length := by omega
    have m2 : i + 1 + rl_z l (i + 1) ∈ rl_c l i := by rw [ec2]; exact List.mem_cons_of_mem _ List.mem_cons_self
    have t2 := ht _ m2
    have n2 := rt_n (rr_T h) hG hi m2
    have y2 : rl_tyc l A i 1 = A.2.1 (i + 1 + rl_z l (i + 1)) := by unfold rl_tyc; rw [if_pos (by omega), ec2]; rfl
    rw [y2] at hQ
    have lt_no : ¬ nI (a (i + 1 + rl_z l (i + 1))) < 0 := by
      have := ((rr_T h).2.2.1 _ hi2).1
      rw [i_lt, nI_toInt (by omega)]; show ¬ (_ : Int) < 0; omega
    generalize i + 1 + rl_z l (i + 1) = j2 at *
    have e2 : ¬ j2 + rl_z l j2 < i + rl_z l i := fun w => by
      rw [ec2, rl_rowu k1 d3 w] at hn; exact absurd hn (by simp)
    rw [if_neg e2] at n2
    refine wq_m m310 (Nat.le_of_ble_eq_true rfl) (by decide) rfl ?_
    refine wq_l 1 d310_0 rfl rfl rfl rfl ?_
    refine wq_gr (ci := 10) (j := 23) (q := 56) 4 d310_1 rfl rfl rfl rfl ?_
    refine wq_l 5 d310_4 rfl rfl rfl rfl ?_
    refine wq_gr (ci := 10) (j := 19) (q := 52) 8 d310_5 rfl rfl rfl rfl ?_
    refine wq_l 9 d310_8 rfl rfl rfl rfl ?_
    refine wq_al 10 d310_9 rfl rfl rfl (bi) ?_
    rw [ef]
    refine wq_al 11 d310_10 rfl rfl rfl (rt_b (rr_T h) hi1) ?_
    rw [rt_t h hi1]
    refine wq_s 12 d310_11 rfl rfl (Nat.le_of_ble_eq_true rfl) rfl rfl ?_
    refine wq_l 13 d310_12 rfl rfl rfl rfl ?_
    refine wq_gr (ci := 10) (j := 21) (q := 54) 16 d310_13 rfl rfl rfl rfl ?_
    refine wq_l 17 d310_16 rfl rfl rfl rfl ?_
    refine wq_gr (ci := 10) (j := 19) (q := 52) 20 d310_17 rfl rfl rfl rfl ?_
    refine wq_l 21 d310_20 rfl rfl rfl rfl ?_
    refine wq_al 22 d310_21 rfl rfl rfl (bi) ?_
    rw [ef]
    refine wq_al 23 d310_22 rfl rfl rfl (rt_b (rr_T h) hi1) ?_
    rw [n1]
    refine wq_b 45 26 d310_23 rfl (by decide) rfl (fun c23 => absurd c23 (lt_no)) (fun c23 => ?_)
    refine wq_l 27 d310_26 rfl rfl rfl rfl ?_
    refine wq_gr (ci := 10) (j := 23) (q := 56) 30 d310_27 rfl rfl rfl rfl ?_
    refine wq_l 31 d310_30 rfl rfl rfl rfl ?_
    refine wq_gr (ci := 10) (j := 21) (q := 54) 34 d310_31 rfl rfl rfl rfl ?_
    refine wq_l 35 d310_34 rfl rfl rfl rfl ?_
    refine wq_gr (ci := 10) (j := 19) (q := 52) 38 d310_35 rfl rfl rfl rfl ?_
    refine wq_l 39 d310_38 rfl rfl rfl rfl ?_
    refine wq_al 40 d310_39 rfl rfl rfl (bi) ?_
    rw [ef]
    refine wq_al 41 d310_40 rfl rfl rfl (rt_b (rr_T h) hi1) ?_
    rw [n1]
    refine wq_al 42 d310_41 rfl rfl rfl (rt_b (rr_T h) hi2) ?_
    rw [rt_t h hi2]
    refine wq_g 46 d310_42 (by decide) ?_
    refine wq_s 48 d310_46 rfl rfl (Nat.le_of_ble_eq_true rfl) rfl rfl ?_
    refine wq_l 50 d310_48 rfl rfl rfl rfl ?_
    refine wq_b 86 53 d310_50 rfl (by decide) rfl (fun c50 => absurd c50 (rw_nn t2)) (fun c50 => ?_)
    refine wq_l 54 d310_53 rfl rfl rfl rfl ?_
    refine wq_gr (ci := 10) (j := 21) (q := 54) 57 d310_54 rfl rfl rfl rfl ?_
    refine wq_l 58 d310_57 rfl rfl rfl rfl ?_
    refine wq_gr (ci := 10) (j := 21) (q := 54) 61 d310_58 rfl rfl rfl rfl ?_
    refine wq_l 62 d310_61 rfl rfl rfl rfl ?_
    refine wq_gr (ci := 10) (j := 19) (q := 52) 65 d310_62 rfl rfl rfl rfl ?_
    refine wq_l 66 d310_65 rfl rfl rfl rfl ?_
    refine wq_al 67 d310_66 rfl rfl rfl (bi) ?_
    rw [ef]
    refine wq_al 68 d310_67 rfl rfl rfl (rt_b (rr_T h) hi1) ?_
    rw [n1]
    refine wq_al 69 d310_68 rfl rfl rfl (rt_b (rr_T h) hi2) ?_
    rw [n2]
    refine wq_b 86 72 d310_69 rfl (by decide) rfl (fun c69 => ?_) (fun c69 => absurd (by decide) c69)
    refine wq_k 87 (-1) d310_86 (by decide) rfl ?_
    refine wq_s 89 d310_87 rfl rfl (Nat.le_of_ble_eq_true rfl) rfl rfl ?_
    refine wq_k 90 (-1) d310_89 (by decide) rfl ?_
    refine wq_s 92 d310_90 rfl rfl (Nat.le_of_ble_eq_true rfl) rfl rfl ?_
    refine wq_l 93 d310_92 rfl rfl rfl rfl ?_
    refine wq_k 95 107 d310_93 (by decide) rfl ?_
    refine wq_b 104 98 d310_95 rfl (by decide) rfl (fun c95 => absurd c95 (by decide)) (fun c95 => ?_)
    refine wq_l 99 d310_98 rfl rfl rfl rfl ?_
    refine wq_k 101 108 d310_99 (by decide) rfl ?_
    refine wq_b 113 104 d310_101 rfl (by decide) rfl (fun c101 => ?_) (fun c101 => absurd (by decide) c101)
    refine wq_l 114 d310_113 rfl rfl rfl rfl ?_
    refine wq_k 116 109 d310_114 (by decide) rfl ?_
    refine wq_b 133 119 d310_116 rfl (by decide) rfl (fun c116 => ?_) (fun c116 => absurd (by decide) c116)
    refine wq_l 134 d310_133 rfl rfl rfl rfl ?_
    refine wq_k 136 104 d310_134 (by decide) rfl ?_
    refine wq_b 179 139 d310_136 rfl (by decide) rfl (fun c136 => ?_) (fun c136 => absurd (by decide) c136)
    refine wq_l 180 d310_179 rfl rfl rfl rfl ?_
    refine wq_k 182 100 d310_180 (by decide) rfl ?_
    refine wq_b 199 185 d310_182 rfl (by decide) rfl (fun c182 => ?_) (fun c182 => absurd (by decide) c182)
    refine wq_l 200 d310_199 rfl rfl rfl rfl ?_
    refine wq_k 202 105 d310_200 (by decide) rfl ?_
    refine wq_b 211 205 d310_202 rfl (by decide) rfl (fun c202 => absurd c202 (by decide)) (fun c202 => ?_)
    refine wq_l 206 d310_205 rfl rfl rfl rfl ?_
    refine wq_k 208 106 d310_206 (by decide) rfl ?_
    refine wq_b 230 211 d310_208 rfl (by decide) rfl (fun c208 => absurd c208 (by decide)) (fun c208 => ?_)
    refine wq_l 212 d310_211 rfl rfl rfl rfl ?_
    refine wq_b 224 215 d310_212 rfl (by decide) rfl (fun c212 => ?_) (fun c212 => ?_)
    · -- pc 224
      refine wq_k 225 (-1) d310_224 (by decide) rfl ?_
      refine wq_s 227 d310_225 rfl rfl (Nat.le_of_ble_eq_true rfl) rfl rfl ?_
      refine wq_g 291 d310_227 (by decide) ?_
      have eL := (rw_5 t1 t2).trans (if_neg (fun z => absurd z.1 (Int32.not_lt.mpr c212)))
      rw [show rl_std 6 _ _ _ = _ from eL] at hQ
      exact re310t h hi (Or.inl rfl) hQ
    · -- pc 215
      refine wq_l 217 d310_215 rfl rfl rfl rfl ?_
      refine wq_b 224 220 d310_217 rfl (by decide) rfl (fun c217 => ?_) (fun c217 => ?_)
      · -- pc 224
        refine wq_k 225 (-1) d310_224 (by decide) rfl ?_
        refine wq_s 227 d310_225 rfl rfl (Nat.le_of_ble_eq_true rfl) rfl rfl ?_
        refine wq_g 291 d310_227 (by decide) ?_
        have eL := (rw_5 t1 t2).trans (if_neg (fun z => absurd z.2 (Int32.not_lt.mpr c217)))
        rw [show rl_std 6 _ _ _ = _ from eL] at hQ
        exact re310t h hi (Or.inl rfl) hQ
      · -- pc 220
        refine wq_l 221 d310_220 rfl rfl rfl rfl ?_
        refine wq_g 225 d310_221 (by decide) ?_
        refine wq_s 227 d310_225 rfl rfl (Nat.le_of_ble_eq_true rfl) rfl rfl ?_
        refine wq_g 291 d310_227 (by decide) ?_
        have eL := (rw_5 t1 t2).trans (if_pos ⟨Int32.not_le.mp c212, Int32.not_le.mp c217⟩)
        rw [show rl_std 6 _ _ _ = _ from eL] at hQ
        exact re310t h hi (Or.inr t1) hQ
  · have hn : (rl_c l i).length = 3 := hn
    have e1 : i + 1 + rl_z l (i + 1) < i + rl_z l i := by
      rcases Nat.lt_or_ge (i + 1 + rl_z l (i + 1)) (i + rl_z l i) with w | w
      · exact w
      · rw [ec, rl_row0 (by omega)] at hn; exact absurd hn (by simp)
    rw [if_pos e1] at n1
    have ec2 : rl_c l i = (i + 1) :: (i + 1 + rl_z l (i + 1)) :: rl_row l (i + 1 + rl_z l (i + 1) + rl_z l (i + 1 + rl_z l (i + 1))) (i + rl_z l i) := by rw [ec, rl_rowu k1 c3 e1]
    obtain ⟨d1, d2, d3⟩ := rl_clz c3 e1
    have hi2 : i + 1 + rl_z l (i + 1) < l.length := by omega
    have m2 : i + 1 + rl_z l (i + 1) ∈ rl_c l i := by rw [ec2]; exact List.mem_cons_of_mem _ List.mem_cons_self
    have t2 := ht _ m2
    have n2 := rt_n (rr_T h) hG hi m2
    have y2 : rl_tyc l A i 1 = A.2.1 (i + 1 + rl_z l (i + 1)) := by unfold rl_tyc; rw [if_pos (by omega), ec2]; rfl
    rw [y2] at hQ
    have lt_no : ¬ nI (a (i + 1 + rl_z l (i + 1))) < 0 := by
      have := ((rr_T h).2.2.1 _ hi2).1
      rw [i_lt, nI_toInt (by omega)]; show ¬ (_ : Int) < 0; omega
    generalize i + 1 + rl_z l (i + 1) = j2 at *
    have e2 : j2 + rl_z l j2 < i + rl_z l i := by
      rcases Nat.lt_or_ge (j2 + rl_z l j2) (i + rl_z l i) with w | w
      · exact w
      · rw [ec2, rl_row0 (by omega)] at hn; exact absurd hn (by simp)
    rw [if_pos e2] at n2
    have ec3 : rl_c l i = (i + 1) :: j2 :: (j2 + rl_z l j2) :: rl_row l (j2 + rl_z l j2 + rl_z l (j2 + rl_z l j2)) (i + rl_z l i) := by rw [ec2, rl_rowu k1 d3 e2]
    obtain ⟨g1, g2, g3⟩ := rl_clz d3 e2
    have hi3 : j2 + rl_z l j2 < l.length := by omega
    have m3 : j2 + rl_z l j2 ∈ rl_c l i := by rw [ec3]; simp
    have t3 := ht _ m3
    have e3 : ¬ j2 + rl_z l j2 + rl_z l (j2 + rl_z l j2) < i + rl_z l i := fun w => by
      rw [ec3, rl_rowu k1 g3 w] at hn; exact absurd hn (by simp)
    have el := rt_l (rr_T h) hi (show (rl_c l i).getLast? = some (j2 + rl_z l j2) by rw [ec3, rl_row0 (by omega)]; rfl)
    have y3 : rl_tyc l A i 2 = A.2.1 (j2 + rl_z l j2) := by unfold rl_tyc; rw [if_pos (by omega), ec3]; rfl
    rw [y3] at hQ
    have lt_no3 : ¬ nI (a (j2 + rl_z l j2)) < 0 := by
      have := ((rr_T h).2.2.1 _ hi3).1
      rw [i_lt, nI_toInt (by omega)]; show ¬ (_ : Int) < 0; omega
    refine wq_m m310 (Nat.le_of_ble_eq_true rfl) (by decide) rfl ?_
    refine wq_l 1 d310_0 rfl rfl rfl rfl ?_
    refine wq_gr (ci := 10) (j := 23) (q := 56) 4 d310_1 rfl rfl rfl rfl ?_
    refine wq_l 5 d310_4 rfl rfl rfl rfl ?_
    refine wq_gr (ci := 10) (j := 19) (q := 52) 8 d310_5 rfl rfl rfl rfl ?_
    refine wq_l 9 d310_8 rfl rfl rfl rfl ?_
    refine wq_al 10 d310_9 rfl rfl rfl (bi) ?_
    rw [ef]
    refine wq_al 11 d310_10 rfl rfl rfl (rt_b (rr_T h) hi1) ?_
    rw [rt_t h hi1]
    refine wq_s 12 d310_11 rfl rfl (Nat.le_of_ble_eq_true rfl) rfl rfl ?_
    refine wq_l 13 d310_12 rfl rfl rfl rfl ?_
    refine wq_gr (ci := 10) (j := 21) (q := 54) 16 d310_13 rfl rfl rfl rfl ?_
    refine wq_l 17 d310_16 rfl rfl rfl rfl ?_
    refine wq_gr (ci := 10) (j := 19) (q := 52) 20 d310_17 rfl rfl rfl rfl ?_
    refine wq_l 21 d310_20 rfl rfl rfl rfl ?_
    refine wq_al 22 d310_21 rfl rfl rfl (bi) ?_
    rw [ef]
    refine wq_al 23 d310_22 rfl rfl rfl (rt_b (rr_T h) hi1) ?_
    rw [n1]
    refine wq_b 45 26 d310_23 rfl (by decide) rfl (fun c23 => absurd c23 (lt_no)) (fun c23 => ?_)
    refine wq_l 27 d310_26 rfl rfl rfl rfl ?_
    refine wq_gr (ci := 10) (j := 23) (q := 56) 30 d310_27 rfl rfl rfl rfl ?_
    refine wq_l 31 d310_30 rfl rfl rfl rfl ?_
    refine wq_gr (ci := 10) (j := 21) (q := 54) 34 d310_31 rfl rfl rfl rfl ?_
    refine wq_l 35 d310_34 rfl rfl rfl rfl ?_
    refine wq_gr (ci := 10) (j := 19) (q := 52) 38 d310_35 rfl rfl rfl rfl ?_
    refine wq_l 39 d310_38 rfl rfl rfl rfl ?_
    refine wq_al 40 d310_39 rfl rfl rfl (bi) ?_
    rw [ef]
    refine wq_al 41 d310_40 rfl rfl rfl (rt_b (rr_T h) hi1) ?_
    rw [n1]
    refine wq_al 42 d310_41 rfl rfl rfl (rt_b (rr_T h) hi2) ?_
    rw [rt_t h hi2]
    refine wq_g 46 d310_42 (by decide) ?_
    refine wq_s 48 d310_46 rfl rfl (Nat.le_of_ble_eq_true rfl) rfl rfl ?_
    refine wq_l 50 d310_48 rfl rfl rfl rfl ?_
    refine wq_b 86 53 d310_50 rfl (by decide) rfl (fun c50 => absurd c50 (rw_nn t2)) (fun c50 => ?_)
    refine wq_l 54 d310_53 rfl rfl rfl rfl ?_
    refine wq_gr (ci := 10) (j := 21) (q := 54) 57 d310_54 rfl rfl rfl rfl ?_
    refine wq_l 58 d310_57 rfl rfl rfl rfl ?_
    refine wq_gr (ci := 10) (j := 21) (q := 54) 61 d310_58 rfl rfl rfl rfl ?_
    refine wq_l 62 d310_61 rfl rfl rfl rfl ?_
    refine wq_gr (ci := 10) (j := 19) (q := 52) 65 d310_62 rfl rfl rfl rfl ?_
    refine wq_l 66 d310_65 rfl rfl rfl rfl ?_
    refine wq_al 67 d310_66 rfl rfl rfl (bi) ?_
    rw [ef]
    refine wq_al 68 d310_67 rfl rfl rfl (rt_b (rr_T h) hi1) ?_
    rw [n1]
    refine wq_al 69 d310_68 rfl rfl rfl (rt_b (rr_T h) hi2) ?_
    rw [n2]
    refine wq_b 86 72 d310_69 rfl (by decide) rfl (fun c69 => absurd c69 (lt_no3)) (fun c69 => ?_)
    refine wq_l 73 d310_72 rfl rfl rfl rfl ?_
    refine wq_gr (ci := 10) (j := 23) (q := 56) 76 d310_73 rfl rfl rfl rfl ?_
    refine wq_l 77 d310_76 rfl rfl rfl rfl ?_
    refine wq_gr (ci := 10) (j := 20) (q := 53) 80 d310_77 rfl rfl rfl rfl ?_
    refine wq_l 81 d310_80 rfl rfl rfl rfl ?_
    refine wq_al 82 d310_81 rfl rfl rfl (bi) ?_
    rw [el]
    refine wq_al 83 d310_82 rfl rfl rfl (rt_b (rr_T h) hi3) ?_
    rw [rt_t h hi3]
    refine wq_g 87 d310_83 (by decide) ?_
    refine wq_s 89 d310_87 rfl rfl (Nat.le_of_ble_eq_true rfl) rfl rfl ?_
    refine wq_k 90 (-1) d310_89 (by decide) rfl ?_
    refine wq_s 92 d310_90 rfl rfl (Nat.le_of_ble_eq_true rfl) rfl rfl ?_
    refine wq_l 93 d310_92 rfl rfl rfl rfl ?_
    refine wq_k 95 107 d310_93 (by decide) rfl ?_
    refine wq_b 104 98 d310_95 rfl (by decide) rfl (fun c95 => absurd c95 (by decide)) (fun c95 => ?_)
    refine wq_l 99 d310_98 rfl rfl rfl rfl ?_
    refine wq_k 101 108 d310_99 (by decide) rfl ?_
    refine wq_b 113 104 d310_101 rfl (by decide) rfl (fun c101 => ?_) (fun c101 => absurd (by decide) c101)
    refine wq_l 114 d310_113 rfl rfl rfl rfl ?_
    refine wq_k 116 109 d310_114 (by decide) rfl ?_
    refine wq_b 133 119 d310_116 rfl (by decide) rfl (fun c116 => ?_) (fun c116 => absurd (by decide) c116)
    refine wq_l 134 d310_133 rfl rfl rfl rfl ?_
    refine wq_k 136 104 d310_134 (by decide) rfl ?_
    refine wq_b 179 139 d310_136 rfl (by decide) rfl (fun c136 => ?_) (fun c136 => absurd (by decide) c136)
    refine wq_l 180 d310_179 rfl rfl rfl rfl ?_
    refine wq_k 182 100 d310_180 (by decide) rfl ?_
    refine wq_b 199 185 d310_182 rfl (by decide) rfl (fun c182 => ?_) (fun c182 => absurd (by decide) c182)
    refine wq_l 200 d310_199 rfl rfl rfl rfl ?_
    refine wq_k 202 105 d310_200 (by decide) rfl ?_
    refine wq_b 211 205 d310_202 rfl (by decide) rfl (fun c202 => absurd c202 (by decide)) (fun c202 => ?_)
    refine wq_l 206 d310_205 rfl rfl rfl rfl ?_
    refine wq_k 208 106 d310_206 (by decide) rfl ?_
    refine wq_b 230 211 d310_208 rfl (by decide) rfl (fun c208 => ?_) (fun c208 => absurd (by decide) c208)
    refine wq_l 231 d310_230 rfl rfl rfl rfl ?_
    refine wq_k 233 103 d310_231 (by decide) rfl ?_
    refine wq_b 270 236 d310_233 rfl (by decide) rfl (fun c233 => absurd c233 (by decide)) (fun c233 => ?_)
    refine wq_l 237 d310_236 rfl rfl rfl rfl ?_
    refine wq_b 264 240 d310_237 rfl (by decide) rfl (fun c237 => ?_) (fun c237 => ?_)
    · -- pc 264
      refine wq_k 265 (-1) d310_264 (by decide) rfl ?_
      refine wq_s 267 d310_265 rfl rfl (Nat.le_of_ble_eq_true rfl) rfl rfl ?_
      refine wq_g 291 d310_267 (by decide) ?_
      have eL := (rw_3 t1 t2 t3).trans (if_neg (fun z => absurd z.1 (Int32.not_lt.mpr c237)))
      rw [show rl_std 3 _ _ _ = _ from eL] at hQ
      exact re310t h hi (Or.inl rfl) hQ
    · -- pc 240
      refine wq_l 242 d310_240 rfl rfl rfl rfl ?_
      refine wq_b 264 245 d310_242 rfl (by decide) rfl (fun c242 => ?_) (fun c242 => ?_)
      · -- pc 264
        refine wq_k 265 (-1) d310_264 (by decide) rfl ?_
        refine wq_s 267 d310_265 rfl rfl (Nat.le_of_ble_eq_true rfl) rfl rfl ?_
        refine wq_g 291 d310_267 (by decide) ?_
        have eL := (rw_3 t1 t2 t3).trans (if_neg (fun z => absurd z.2.1 (Int32.not_lt.mpr c242)))
        rw [show rl_std 3 _ _ _ = _ from eL] at hQ
        exact re310t h hi (Or.inl rfl) hQ
      · -- pc 245
        refine wq_l 247 d310_245 rfl rfl rfl rfl ?_
        refine wq_b 264 250 d310_247 rfl (by decide) rfl (fun c247 => ?_) (fun c247 => ?_)
        · -- pc 264
          refine wq_k 265 (-1) d310_264 (by decide) rfl ?_
          refine wq_s 267 d310_265 rfl rfl (Nat.le_of_ble_eq_true rfl) rfl rfl ?_
          refine wq_g 291 d310_267 (by decide) ?_
          have eL := (rw_3 t1 t2 t3).trans (if_neg (fun z => absurd z.2.2 (Int32.not_lt.mpr c247)))
          rw [show rl_std 3 _ _ _ = _ from eL] at hQ
          exact re310t h hi (Or.inl rfl) hQ
        · -- pc 250
          refine wq_l 251 d310_250 rfl rfl rfl rfl ?_
          refine wq_l 253 d310_251 rfl rfl rfl rfl ?_
          refine wq_l 255 d310_253 rfl rfl rfl rfl ?_
          refine wq_vs 258 [_, _] d310_255 rfl rfl m311 rfl (Nat.le_of_ble_eq_true rfl) rfl (sp311 ?_)
          refine wq_vs 261 [_, _] d310_258 rfl rfl m311 rfl (Nat.le_of_ble_eq_true rfl) rfl (sp311 ?_)
          refine wq_g 265 d310_261 (by decide) ?_
          refine wq_s 267 d310_265 rfl rfl (Nat.le_of_ble_eq_true rfl) rfl rfl ?_
          refine wq_g 291 d310_267 (by decide) ?_
          have eL := (rw_3 t1 t2 t3).trans (if_pos ⟨Int32.not_le.mp c237, Int32.not_le.mp c242, Int32.not_le.mp c247⟩)
          rw [show rl_std 3 _ _ _ = _ from eL] at hQ
          exact re310t h hi (Or.inr (rw_m t1 (rw_m t2 t3))) hQ
  · have hn : (rl_c l i).length = 3 := hn
    have e1 : i + 1 + rl_z l (i + 1) < i + rl_z l i := by
      rcases Nat.lt_or_ge (i + 1 + rl_z l (i + 1)) (i + rl_z l i) with w | w
      · exact w
      · rw [ec, rl_row0 (by omega)] at hn; exact absurd hn (by simp)
    rw [if_pos e1] at n1
    have ec2 : rl_c l i = (i + 1) :: (i + 1 + rl_z l (i + 1)) :: rl_row l (i + 1 + rl_z l (i + 1) + rl_z l (i + 1 + rl_z l (i + 1))) (i + rl_z l i) := by rw [ec, rl_rowu k1 c3 e1]
    obtain ⟨d1, d2, d3⟩ := rl_clz c3 e1
    have hi2 : i + 1 + rl_z l (i + 1) < l.length := by omega
    have m2 : i + 1 + rl_z l (i + 1) ∈ rl_c l i := by rw [ec2]; exact List.mem_cons_of_mem _ List.mem_cons_self
    have t2 := ht _ m2
    have n2 := rt_n (rr_T h) hG hi m2
    have y2 : rl_tyc l A i 1 = A.2.1 (i + 1 + rl_z l (i + 1)) := by unfold rl_tyc; rw [if_pos (by omega), ec2]; rfl
    rw [y2] at hQ
    have lt_no : ¬ nI (a (i + 1 + rl_z l (i + 1))) < 0 := by
      have := ((rr_T h).2.2.1 _ hi2).1
      rw [i_lt, nI_toInt (by omega)]; show ¬ (_ : Int) < 0; omega
    generalize i + 1 + rl_z l (i + 1) = j2 at *
    have e2 : j2 + rl_z l j2 < i + rl_z l i := by
      rcases Nat.lt_or_ge (j2 + rl_z l j2) (i + rl_z l i) with w | w
      · exact w
      · rw [ec2, rl_row0 (by omega)] at hn; exact absurd hn (by simp)
    rw [if_pos e2] at n2
    have ec3 : rl_c l i = (i + 1) :: j2 :: (j2 + rl_z l j2) :: rl_row l (j2 + rl_z l j2 + rl_z l (j2 + rl_z l j2)) (i + rl_z l i) := by rw [ec2, rl_rowu k1 d3 e2]
    obtain ⟨g1, g2, g3⟩ := rl_clz d3 e2
    have hi3 : j2 + rl_z l j2 < l.length := by omega
    have m3 : j2 + rl_z l j2 ∈ rl_c l i := by rw [ec3]; simp
    have t3 := ht _ m3
    have e3 : ¬ j2 + rl_z l j2 + rl_z l (j2 + rl_z l j2) < i + rl_z l i := fun w => by
      rw [ec3, rl_rowu k1 g3 w] at hn; exact absurd hn (by simp)
    have el := rt_l (rr_T h) hi (show (rl_c l i).getLast? = some (j2 + rl_z l j2) by rw [ec3, rl_row0 (by omega)]; rfl)
    have y3 : rl_tyc l A i 2 = A.2.1 (j2 + rl_z l j2) := by unfold rl_tyc; rw [if_pos (by omega), ec3]; rfl
    rw [y3] at hQ
    have lt_no3 : ¬ nI (a (j2 + rl_z l j2)) < 0 := by
      have := ((rr_T h).2.2.1 _ hi3).1
      rw [i_lt, nI_toInt (by omega)]; show ¬ (_ : Int) < 0; omega
    refine wq_m m310 (Nat.le_of_ble_eq_true rfl) (by decide) rfl ?_
    refine wq_l 1 d310_0 rfl rfl rfl rfl ?_
    refine wq_gr (ci := 10) (j := 23) (q := 56) 4 d310_1 rfl rfl rfl rfl ?_
    refine wq_l 5 d310_4 rfl rfl rfl rfl ?_
    refine wq_gr (ci := 10) (j := 19) (q := 52) 8 d310_5 rfl rfl rfl rfl ?_
    refine wq_l 9 d310_8 rfl rfl rfl rfl ?_
    refine wq_al 10 d310_9 rfl rfl rfl (bi) ?_
    rw [ef]
    refine wq_al 11 d310_10 rfl rfl rfl (rt_b (rr_T h) hi1) ?_
    rw [rt_t h hi1]
    refine wq_s 12 d310_11 rfl rfl (Nat.le_of_ble_eq_true rfl) rfl rfl ?_
    refine wq_l 13 d310_12 rfl rfl rfl rfl ?_
    refine wq_gr (ci := 10) (j := 21) (q := 54) 16 d310_13 rfl rfl rfl rfl ?_
    refine wq_l 17 d310_16 rfl rfl rfl rfl ?_
    refine wq_gr (ci := 10) (j := 19) (q := 52) 20 d310_17 rfl rfl rfl rfl ?_
    refine wq_l 21 d310_20 rfl rfl rfl rfl ?_
    refine wq_al 22 d310_21 rfl rfl rfl (bi) ?_
    rw [ef]
    refine wq_al 23 d310_22 rfl rfl rfl (rt_b (rr_T h) hi1) ?_
    rw [n1]
    refine wq_b 45 26 d310_23 rfl (by decide) rfl (fun c23 => absurd c23 (lt_no)) (fun c23 => ?_)
    refine wq_l 27 d310_26 rfl rfl rfl rfl ?_
    refine wq_gr (ci := 10) (j := 23) (q := 56) 30 d310_27 rfl rfl rfl rfl ?_
    refine wq_l 31 d310_30 rfl rfl rfl rfl ?_
    refine wq_gr (ci := 10) (j := 21) (q := 54) 34 d310_31 rfl rfl rfl rfl ?_
    refine wq_l 35 d310_34 rfl rfl rfl rfl ?_
    refine wq_gr (ci := 10) (j := 19) (q := 52) 38 d310_35 rfl rfl rfl rfl ?_
    refine wq_l 39 d310_38 rfl rfl rfl rfl ?_
    refine wq_al 40 d310_39 rfl rfl rfl (bi) ?_
    rw [ef]
    refine wq_al 41 d310_40 rfl rfl rfl (rt_b (rr_T h) hi1) ?_
    rw [n1]
    refine wq_al 42 d310_41 rfl rfl rfl (rt_b (rr_T h) hi2) ?_
    rw [rt_t h hi2]
    refine wq_g 46 d310_42 (by decide) ?_
    refine wq_s 48 d310_46 rfl rfl (Nat.le_of_ble_eq_true rfl) rfl rfl ?_
    refine wq_l 50 d310_48 rfl rfl rfl rfl ?_
    refine wq_b 86 53 d310_50 rfl (by decide) rfl (fun c50 => absurd c50 (rw_nn t2)) (fun c50 => ?_)
    refine wq_l 54 d310_53 rfl rfl rfl rfl ?_
    refine wq_gr (ci := 10) (j := 21) (q := 54) 57 d310_54 rfl rfl rfl rfl ?_
    refine wq_l 58 d310_57 rfl rfl rfl rfl ?_
    refine wq_gr (ci := 10) (j := 21) (q := 54) 61 d310_58 rfl rfl rfl rfl ?_
    refine wq_l 62 d310_61 rfl rfl rfl rfl ?_
    refine wq_gr (ci := 10) (j := 19) (q := 52) 65 d310_62 rfl rfl rfl rfl ?_
    refine wq_l 66 d310_65 rfl rfl rfl rfl ?_
    refine wq_al 67 d310_66 rfl rfl rfl (bi) ?_
    rw [ef]
    refine wq_al 68 d310_67 rfl rfl rfl (rt_b (rr_T h) hi1) ?_
    rw [n1]
    refine wq_al 69 d310_68 rfl rfl rfl (rt_b (rr_T h) hi2) ?_
    rw [n2]
    refine wq_b 86 72 d310_69 rfl (by decide) rfl (fun c69 => absurd c69 (lt_no3)) (fun c69 => ?_)
    refine wq_l 73 d310_72 rfl rfl rfl rfl ?_
    refine wq_gr (ci := 10) (j := 23) (q := 56) 76 d310_73 rfl rfl rfl rfl ?_
    refine wq_l 77 d310_76 rfl rfl rfl rfl ?_
    refine wq_gr (ci := 10) (j := 20) (q := 53) 80 d310_77 rfl rfl rfl rfl ?_
    refine wq_l 81 d310_80 rfl rfl rfl rfl ?_
    refine wq_al 82 d310_81 rfl rfl rfl (bi) ?_
    rw [el]
    refine wq_al 83 d310_82 rfl rfl rfl (rt_b (rr_T h) hi3) ?_
    rw [rt_t h hi3]
    refine wq_g 87 d310_83 (by decide) ?_
    refine wq_s 89 d310_87 rfl rfl (Nat.le_of_ble_eq_true rfl) rfl rfl ?_
    refine wq_k 90 (-1) d310_89 (by decide) rfl ?_
    refine wq_s 92 d310_90 rfl rfl (Nat.le_of_ble_eq_true rfl) rfl rfl ?_
    refine wq_l 93 d310_92 rfl rfl rfl rfl ?_
    refine wq_k 95 107 d310_93 (by decide) rfl ?_
    refine wq_b 104 98 d310_95 rfl (by decide) rfl (fun c95 => absurd c95 (by decide)) (fun c95 => ?_)
    refine wq_l 99 d310_98 rfl rfl rfl rfl ?_
    refine wq_k 101 108 d310_99 (by decide) rfl ?_
    refine wq_b 113 104 d310_101 rfl (by decide) rfl (fun c101 => ?_) (fun c101 => absurd (by decide) c101)
    refine wq_l 114 d310_113 rfl rfl rfl rfl ?_
    refine wq_k 116 109 d310_114 (by decide) rfl ?_
    refine wq_b 133 119 d310_116 rfl (by decide) rfl (fun c116 => ?_) (fun c116 => absurd (by decide) c116)
    refine wq_l 134 d310_133 rfl rfl rfl rfl ?_
    refine wq_k 136 104 d310_134 (by decide) rfl ?_
    refine wq_b 179 139 d310_136 rfl (by decide) rfl (fun c136 => absurd c136 (by decide)) (fun c136 => ?_)
    refine wq_l 140 d310_139 rfl rfl rfl rfl ?_
    refine wq_b 173 143 d310_140 rfl (by decide) rfl (fun c140 => ?_) (fun c140 => ?_)
    · -- pc 173
      refine wq_k 174 (-1) d310_173 (by decide) rfl ?_
      refine wq_s 176 d310_174 rfl rfl (Nat.le_of_ble_eq_true rfl) rfl rfl ?_
      refine wq_g 291 d310_176 (by decide) ?_
      have eL := (rw_4 t1 t2 t3).trans (if_neg (fun z => c140 z.1))
      rw [show rl_std 4 _ _ _ = _ from eL] at hQ
      exact re310t h hi (Or.inl rfl) hQ
    · -- pc 143
      refine wq_l 145 d310_143 rfl rfl rfl rfl ?_
      refine wq_b 153 148 d310_145 rfl (by decide) rfl (fun c145 => ?_) (fun c145 => ?_)
      · -- pc 153
        refine wq_l 155 d310_153 rfl rfl rfl rfl ?_
        refine wq_b 173 158 d310_155 rfl (by decide) rfl (fun c155 => ?_) (fun c155 => ?_)
        · -- pc 173
          refine wq_k 174 (-1) d310_173 (by decide) rfl ?_
          refine wq_s 176 d310_174 rfl rfl (Nat.le_of_ble_eq_true rfl) rfl rfl ?_
          refine wq_g 291 d310_176 (by decide) ?_
          have eL := (rw_4 t1 t2 t3).trans (if_neg (fun z => z.2.elim (fun y => c145 y.1) (fun y => absurd y.1 (Int32.not_lt.mpr c155))))
          rw [show rl_std 4 _ _ _ = _ from eL] at hQ
          exact re310t h hi (Or.inl rfl) hQ
        · -- pc 158
          refine wq_l 160 d310_158 rfl rfl rfl rfl ?_
          refine wq_b 173 163 d310_160 rfl (by decide) rfl (fun c160 => ?_) (fun c160 => ?_)
          · -- pc 173
            refine wq_k 174 (-1) d310_173 (by decide) rfl ?_
            refine wq_s 176 d310_174 rfl rfl (Nat.le_of_ble_eq_true rfl) rfl rfl ?_
            refine wq_g 291 d310_176 (by decide) ?_
            have eL := (rw_4 t1 t2 t3).trans (if_neg (fun z => z.2.elim (fun y => c145 y.1) (fun y => absurd y.2 (Int32.not_lt.mpr c160))))
            rw [show rl_std 4 _ _ _ = _ from eL] at hQ
            exact re310t h hi (Or.inl rfl) hQ
          · -- pc 163
            refine wq_l 165 d310_163 rfl rfl rfl rfl ?_
            refine wq_l 167 d310_165 rfl rfl rfl rfl ?_
            refine wq_vs 170 [_, _] d310_167 rfl rfl m311 rfl (Nat.le_of_ble_eq_true rfl) rfl (sp311 ?_)
            refine wq_g 174 d310_170 (by decide) ?_
            refine wq_s 176 d310_174 rfl rfl (Nat.le_of_ble_eq_true rfl) rfl rfl ?_
            refine wq_g 291 d310_176 (by decide) ?_
            have eL := (rw_4 t1 t2 t3).trans (if_pos ⟨Classical.not_not.mp c140, Or.inr ⟨Int32.not_le.mp c155, Int32.not_le.mp c160⟩⟩)
            rw [show rl_std 4 _ _ _ = _ from eL] at hQ
            exact re310t h hi (Or.inr (rw_m t2 t3)) hQ
      · -- pc 148
        refine wq_l 150 d310_148 rfl rfl rfl rfl ?_
        refine wq_b 163 153 d310_150 rfl (by decide) rfl (fun c150 => ?_) (fun c150 => ?_)
        · -- pc 163
          refine wq_l 165 d310_163 rfl rfl rfl rfl ?_
          refine wq_l 167 d310_165 rfl rfl rfl rfl ?_
          refine wq_vs 170 [_, _] d310_167 rfl rfl m311 rfl (Nat.le_of_ble_eq_true rfl) rfl (sp311 ?_)
          refine wq_g 174 d310_170 (by decide) ?_
          refine wq_s 176 d310_174 rfl rfl (Nat.le_of_ble_eq_true rfl) rfl rfl ?_
          refine wq_g 291 d310_176 (by decide) ?_
          have eL := (rw_4 t1 t2 t3).trans (if_pos ⟨Classical.not_not.mp c140, Or.inl ⟨Classical.not_not.mp c145, c150⟩⟩)
          rw [show rl_std 4 _ _ _ = _ from eL] at hQ
          exact re310t h hi (Or.inr (rw_m t2 t3)) hQ
        · -- pc 153
          refine wq_l 155 d310_153 rfl rfl rfl rfl ?_
          refine wq_b 173 158 d310_155 rfl (by decide) rfl (fun c155 => ?_) (fun c155 => ?_)
          · -- pc 173
            refine wq_k 174 (-1) d310_173 (by decide) rfl ?_
            refine wq_s 176 d310_174 rfl rfl (Nat.le_of_ble_eq_true rfl) rfl rfl ?_
            refine wq_g 291 d310_176 (by decide) ?_
            have eL := (rw_4 t1 t2 t3).trans (if_neg (fun z => z.2.elim (fun y => c150 y.2) (fun y => absurd y.1 (Int32.not_lt.mpr c155))))
            rw [show rl_std 4 _ _ _ = _ from eL] at hQ
            exact re310t h hi (Or.inl rfl) hQ
          · -- pc 158
            refine wq_l 160 d310_158 rfl rfl rfl rfl ?_
            refine wq_b 173 163 d310_160 rfl (by decide) rfl (fun c160 => ?_) (fun c160 => ?_)
            · -- pc 173
              refine wq_k 174 (-1) d310_173 (by decide) rfl ?_
              refine wq_s 176 d310_174 rfl rfl (Nat.le_of_ble_eq_true rfl) rfl rfl ?_
              refine wq_g 291 d310_176 (by decide) ?_
              have eL := (rw_4 t1 t2 t3).trans (if_neg (fun z => z.2.elim (fun y => c150 y.2) (fun y => absurd y.2 (Int32.not_lt.mpr c160))))
              rw [show rl_std 4 _ _ _ = _ from eL] at hQ
              exact re310t h hi (Or.inl rfl) hQ
            · -- pc 163
              refine wq_l 165 d310_163 rfl rfl rfl rfl ?_
              refine wq_l 167 d310_165 rfl rfl rfl rfl ?_
              refine wq_vs 170 [_, _] d310_167 rfl rfl m311 rfl (Nat.le_of_ble_eq_true rfl) rfl (sp311 ?_)
              refine wq_g 174 d310_170 (by decide) ?_
              refine wq_s 176 d310_174 rfl rfl (Nat.le_of_ble_eq_true rfl) rfl rfl ?_
              refine wq_g 291 d310_176 (by decide) ?_
              have eL := (rw_4 t1 t2 t3).trans (if_pos ⟨Classical.not_not.mp c140, Or.inr ⟨Int32.not_le.mp c155, Int32.not_le.mp c160⟩⟩)
              rw [show rl_std 4 _ _ _ = _ from eL] at hQ
              exact re310t h hi (Or.inr (rw_m t2 t3)) hQ
