/-! WRAP -/
theorem sp57 {d : Nat} {σ : pm_S} {m : Nat} {x y z : Int32} {Q : Option Value → pm_S → Prop} (h8 : σ.1 3 8 = nI m) (hm : m ≤ 16386) (h1 : m < 16386 → Q (some (.int (nI m))) (ta σ m x y z)) (h0 : ¬ m < 16386 → Q (some (.int (-1))) σ) : pm_call pm_Y0 (d + 1) 57 [.ref 3, .int x, .int y, .int z] σ Q := by
  have em := nI_toInt (n := m) (by omega)
  have ek := nI_clamp (n := m) (by omega)
  refine wq_m m57 (Nat.le_of_ble_eq_true rfl) (by decide) rfl ?_
  refine wq_l 1 d57_0 rfl rfl rfl rfl ?_
  refine wq_gi (ci := 3) (j := 8) 4 d57_1 rfl rfl rfl rfl ?_
  first | simp only [pm_r1r, h8] | rw [show ∀ (τ : pm_S) (y : Int32), (pm_pi τ 3 8 y).1 3 8 = y from fun _ _ => rfl]
  refine wq_k 7 16386 d57_4 (by decide) rfl ?_
  refine wq_b 12 10 d57_7 rfl (by decide) rfl (fun c7 => ?_) (fun c7 => ?_)
  · -- pc 12
    have hm : m < 16386 := (by simp only [i_lt, i_le, i_eq, ne_eq, Int32.reduceToInt, b2_0, b2_1, decide_eq_true_eq, decide_eq_false_iff_not, Bool.not_eq_true, Bool.not_eq_false] at * <;> omega)
    refine wq_l 13 d57_12 rfl rfl rfl rfl ?_
    refine wq_gr (ci := 3) (j := 0) (q := 19) 16 d57_13 rfl rfl rfl rfl ?_
    refine wq_l 17 d57_16 rfl rfl rfl rfl ?_
    refine wq_gi (ci := 3) (j := 8) 20 d57_17 rfl rfl rfl rfl ?_
    first | simp only [pm_r1r, h8] | rw [show ∀ (τ : pm_S) (y : Int32), (pm_pi τ 3 8 y).1 3 8 = y from fun _ _ => rfl]
    refine wq_l 21 d57_20 rfl rfl rfl rfl ?_
    refine wq_as 22 d57_21 rfl rfl rfl (vp_in_iff.mpr (by simp only [i_lt, i_le, i_eq, ne_eq, Int32.reduceToInt, b2_0, b2_1, decide_eq_true_eq, decide_eq_false_iff_not, Bool.not_eq_true, Bool.not_eq_false] at * <;> omega)) ?_
    refine wq_l 23 d57_22 rfl rfl rfl rfl ?_
    refine wq_gr (ci := 3) (j := 1) (q := 20) 26 d57_23 rfl rfl rfl rfl ?_
    refine wq_l 27 d57_26 rfl rfl rfl rfl ?_
    refine wq_gi (ci := 3) (j := 8) 30 d57_27 rfl rfl rfl rfl ?_
    first | simp only [pm_r1r, h8] | rw [show ∀ (τ : pm_S) (y : Int32), (pm_pi τ 3 8 y).1 3 8 = y from fun _ _ => rfl]
    refine wq_l 31 d57_30 rfl rfl rfl rfl ?_
    refine wq_as 32 d57_31 rfl rfl rfl (vp_in_iff.mpr (by simp only [i_lt, i_le, i_eq, ne_eq, Int32.reduceToInt, b2_0, b2_1, decide_eq_true_eq, decide_eq_false_iff_not, Bool.not_eq_true, Bool.not_eq_false] at * <;> omega)) ?_
    refine wq_l 33 d57_32 rfl rfl rfl rfl ?_
    refine wq_gr (ci := 3) (j := 2) (q := 21) 36 d57_33 rfl rfl rfl rfl ?_
    refine wq_l 37 d57_36 rfl rfl rfl rfl ?_
    refine wq_gi (ci := 3) (j := 8) 40 d57_37 rfl rfl rfl rfl ?_
    first | simp only [pm_r1r, h8] | rw [show ∀ (τ : pm_S) (y : Int32), (pm_pi τ 3 8 y).1 3 8 = y from fun _ _ => rfl]
    refine wq_l 41 d57_40 rfl rfl rfl rfl ?_
    refine wq_as 42 d57_41 rfl rfl rfl (vp_in_iff.mpr (by simp only [i_lt, i_le, i_eq, ne_eq, Int32.reduceToInt, b2_0, b2_1, decide_eq_true_eq, decide_eq_false_iff_not, Bool.not_eq_true, Bool.not_eq_false] at * <;> omega)) ?_
    refine wq_l 43 d57_42 rfl rfl rfl rfl ?_
    refine wq_gr (ci := 3) (j := 3) (q := 22) 46 d57_43 rfl rfl rfl rfl ?_
    refine wq_l 47 d57_46 rfl rfl rfl rfl ?_
    refine wq_gi (ci := 3) (j := 8) 50 d57_47 rfl rfl rfl rfl ?_
    first | simp only [pm_r1r, h8] | rw [show ∀ (τ : pm_S) (y : Int32), (pm_pi τ 3 8 y).1 3 8 = y from fun _ _ => rfl]
    refine wq_k 51 1 d57_50 (by decide) rfl ?_
    refine wq_as 52 d57_51 rfl rfl rfl (vp_in_iff.mpr (by simp only [i_lt, i_le, i_eq, ne_eq, Int32.reduceToInt, b2_0, b2_1, decide_eq_true_eq, decide_eq_false_iff_not, Bool.not_eq_true, Bool.not_eq_false] at * <;> omega)) ?_
    refine wq_l 53 d57_52 rfl rfl rfl rfl ?_
    refine wq_gr (ci := 3) (j := 4) (q := 23) 56 d57_53 rfl rfl rfl rfl ?_
    refine wq_l 57 d57_56 rfl rfl rfl rfl ?_
    refine wq_gi (ci := 3) (j := 8) 60 d57_57 rfl rfl rfl rfl ?_
    first | simp only [pm_r1r, h8] | rw [show ∀ (τ : pm_S) (y : Int32), (pm_pi τ 3 8 y).1 3 8 = y from fun _ _ => rfl]
    refine wq_k 61 (-1) d57_60 (by decide) rfl ?_
    refine wq_as 62 d57_61 rfl rfl rfl (vp_in_iff.mpr (by simp only [i_lt, i_le, i_eq, ne_eq, Int32.reduceToInt, b2_0, b2_1, decide_eq_true_eq, decide_eq_false_iff_not, Bool.not_eq_true, Bool.not_eq_false] at * <;> omega)) ?_
    refine wq_l 63 d57_62 rfl rfl rfl rfl ?_
    refine wq_gr (ci := 3) (j := 5) (q := 24) 66 d57_63 rfl rfl rfl rfl ?_
    refine wq_l 67 d57_66 rfl rfl rfl rfl ?_
    refine wq_gi (ci := 3) (j := 8) 70 d57_67 rfl rfl rfl rfl ?_
    first | simp only [pm_r1r, h8] | rw [show ∀ (τ : pm_S) (y : Int32), (pm_pi τ 3 8 y).1 3 8 = y from fun _ _ => rfl]
    refine wq_k 71 (-1) d57_70 (by decide) rfl ?_
    refine wq_as 72 d57_71 rfl rfl rfl (vp_in_iff.mpr (by simp only [i_lt, i_le, i_eq, ne_eq, Int32.reduceToInt, b2_0, b2_1, decide_eq_true_eq, decide_eq_false_iff_not, Bool.not_eq_true, Bool.not_eq_false] at * <;> omega)) ?_
    refine wq_l 73 d57_72 rfl rfl rfl rfl ?_
    refine wq_gr (ci := 3) (j := 6) (q := 25) 76 d57_73 rfl rfl rfl rfl ?_
    refine wq_l 77 d57_76 rfl rfl rfl rfl ?_
    refine wq_gi (ci := 3) (j := 8) 80 d57_77 rfl rfl rfl rfl ?_
    first | simp only [pm_r1r, h8] | rw [show ∀ (τ : pm_S) (y : Int32), (pm_pi τ 3 8 y).1 3 8 = y from fun _ _ => rfl]
    refine wq_k 81 (-1) d57_80 (by decide) rfl ?_
    refine wq_as 82 d57_81 rfl rfl rfl (vp_in_iff.mpr (by simp only [i_lt, i_le, i_eq, ne_eq, Int32.reduceToInt, b2_0, b2_1, decide_eq_true_eq, decide_eq_false_iff_not, Bool.not_eq_true, Bool.not_eq_false] at * <;> omega)) ?_
    refine wq_l 83 d57_82 rfl rfl rfl rfl ?_
    refine wq_gr (ci := 3) (j := 7) (q := 26) 86 d57_83 rfl rfl rfl rfl ?_
    refine wq_l 87 d57_86 rfl rfl rfl rfl ?_
    refine wq_gi (ci := 3) (j := 8) 90 d57_87 rfl rfl rfl rfl ?_
    first | simp only [pm_r1r, h8] | rw [show ∀ (τ : pm_S) (y : Int32), (pm_pi τ 3 8 y).1 3 8 = y from fun _ _ => rfl]
    refine wq_k 91 (-1) d57_90 (by decide) rfl ?_
    refine wq_as 92 d57_91 rfl rfl rfl (vp_in_iff.mpr (by simp only [i_lt, i_le, i_eq, ne_eq, Int32.reduceToInt, b2_0, b2_1, decide_eq_true_eq, decide_eq_false_iff_not, Bool.not_eq_true, Bool.not_eq_false] at * <;> omega)) ?_
    refine wq_l 93 d57_92 rfl rfl rfl rfl ?_
    refine wq_a 94 d57_93 rfl rfl ?_
    refine wq_gi (ci := 3) (j := 8) 97 d57_94 rfl rfl rfl rfl ?_
    first | simp only [pm_r1r, h8] | rw [show ∀ (τ : pm_S) (y : Int32), (pm_pi τ 3 8 y).1 3 8 = y from fun _ _ => rfl]
    refine wq_k 98 1 d57_97 (by decide) rfl ?_
    refine wq_a 99 d57_98 rfl rfl ?_
    rw [show nI m + 1 = nI (m + 1) from (nI_succ m).symm]
    refine wq_pf (ci := 3) (j := 8) 102 d57_99 rfl rfl rfl ⟨rfl, rfl⟩ rfl ?_
    refine wq_l 103 d57_102 rfl rfl rfl rfl ?_
    refine wq_gi (ci := 3) (j := 8) 106 d57_103 rfl rfl rfl rfl ?_
    first | simp only [pm_r1r, h8] | rw [show ∀ (τ : pm_S) (y : Int32), (pm_pi τ 3 8 y).1 3 8 = y from fun _ _ => rfl]
    refine wq_k 107 1 d57_106 (by decide) rfl ?_
    refine wq_a 108 d57_107 rfl rfl ?_
    rw [ek, nI_pred]
    refine wq_ri d57_108 (rfl) ?_
    exact h1 hm
  · -- pc 10
    refine wq_k 11 (-1) d57_10 (by decide) rfl ?_
    refine wq_ri d57_11 (rfl) ?_
    exact h0 (by simp only [i_lt, i_le, i_eq, ne_eq, Int32.reduceToInt, b2_0, b2_1, decide_eq_true_eq, decide_eq_false_iff_not, Bool.not_eq_true, Bool.not_eq_false] at * <;> omega)
theorem tw_at {f : Nat → Int32} {m a j : Nat} {v w : Int32} (ha : a ≤ m) (hj : j ≤ m) : upd (va_cpy (upd f m v) (upd f m v) a (a + 1) (m - a)) a w j = if j = a then w else if a < j then f (j - 1) else f j := by
  by_cases h1 : j = a
  · rw [if_pos h1, h1, pk_us]
  · rw [if_neg h1, pk_un h1]
    unfold va_cpy
    by_cases h2 : a < j
    · rw [if_pos (by omega), if_pos h2, show a + (j - (a + 1)) = j - 1 by omega, pk_un (by omega)]
    · rw [if_neg (by omega), if_neg h2, pk_un (by omega)]
theorem tw_L {σ σ' : pm_S} {L r : List pg_N} {k p : Nat} {v : Int32} (h : tr_L σ (L ++ r)) (h8 : σ'.1 3 8 = nI (L.length + r.length + 1))
    (ha : ∀ j, j ≤ L.length + r.length → σ'.2.2 19 j = (if j = L.length then nI k else if L.length < j then σ.2.2 19 (j - 1) else σ.2.2 19 j) ∧ σ'.2.2 20 j = (if j = L.length then nI p else if L.length < j then σ.2.2 20 (j - 1) else σ.2.2 20 j) ∧ σ'.2.2 21 j = (if j = L.length then v else if L.length < j then σ.2.2 21 (j - 1) else σ.2.2 21 j) ∧ σ'.2.2 22 j = (if j = L.length then nI (r.length + 1) else if L.length < j then σ.2.2 22 (j - 1) else σ.2.2 22 j))
    (hb : ∀ q, 23 ≤ q → q ≤ 26 → ∀ j, j ≤ L.length + r.length → σ'.2.2 q j = (if j = L.length + r.length then -1 else σ.2.2 q j)) : tr_L σ' ((L ++ [(k, p, v, r.length + 1)]) ++ r) := by
  refine ⟨by rw [h8, tr_len]; congr 1; omega, fun j x hx => ?_⟩
  have hj : j < L.length + 1 + r.length := by
    rcases Nat.lt_or_ge j (L.length + 1 + r.length) with z | z
    · exact z
    · rw [List.getElem?_eq_none (by rw [tr_len]; exact z)] at hx; cases hx
  obtain ⟨a1, a2, a3, a4⟩ := ha j (by omega)
  have hl : (L ++ r).length = L.length + r.length := List.length_append
  have h23 : ∀ q, 23 ≤ q → q ≤ 26 → (∀ i y, (L ++ r)[i]? = some y → σ.2.2 q i = -1) → σ'.2.2 q j = -1 := fun q q1 q2 hq => by
    rw [hb q q1 q2 j (by omega)]
    by_cases w : j = L.length + r.length
    · rw [if_pos w]
    · rw [if_neg w]
      exact hq j _ (List.getElem?_eq_getElem (by omega))
  have e23 := h23 23 (by omega) (by omega) (fun i y hy => (h.2 i y hy).2.2.2.2.1)
  have e24 := h23 24 (by omega) (by omega) (fun i y hy => (h.2 i y hy).2.2.2.2.2.1)
  have e25 := h23 25 (by omega) (by omega) (fun i y hy => (h.2 i y hy).2.2.2.2.2.2.1)
  have e26 := h23 26 (by omega) (by omega) (fun i y hy => (h.2 i y hy).2.2.2.2.2.2.2)
  rw [List.append_assoc] at hx
  by_cases q : j = L.length
  · subst q
    rw [List.getElem?_append_right (Nat.le_refl _), Nat.sub_self] at hx
    cases hx
    rw [a1, a2, a3, a4, if_pos rfl, if_pos rfl, if_pos rfl, if_pos rfl]
    exact ⟨rfl, rfl, rfl, rfl, e23, e24, e25, e26⟩
  · by_cases w : L.length < j
    · rw [List.getElem?_append_right (by omega), show j - L.length = (j - 1 - L.length) + 1 by omega] at hx
      have hx' : (L ++ r)[j - 1]? = some x := by rw [List.getElem?_append_right (by omega)]; exact hx
      have := h.2 (j - 1) x hx'
      rw [a1, a2, a3, a4, if_neg q, if_neg q, if_neg q, if_neg q, if_pos w, if_pos w, if_pos w, if_pos w]
      exact ⟨this.1, this.2.1, this.2.2.1, this.2.2.2.1, e23, e24, e25, e26⟩
    · rw [List.getElem?_append_left (by omega)] at hx
      have hx' : (L ++ r)[j]? = some x := by rw [List.getElem?_append_left (by omega)]; exact hx
      have := h.2 j x hx'
      rw [a1, a2, a3, a4, if_neg q, if_neg q, if_neg q, if_neg q, if_neg w, if_neg w, if_neg w, if_neg w]
      exact ⟨this.1, this.2.1, this.2.2.1, this.2.2.2.1, e23, e24, e25, e26⟩
theorem pk61 {d : Nat} {T : pg_T} {n : Nat} {σ0 σ : pm_S} {c : pg_C} {L r : List pg_N} {k p : Nat} {v x : Int32} {Q : Option Value → pm_S → Prop} (hx : L.length ≤ 16386 → x = nI L.length) (hx0 : ¬ x < 0) (hR : pc_R T n σ0 σ c L r) (hQ : ∀ σ', pc_R T n σ0 σ' c (L ++ [(k, p, v, r.length + 1)]) r → Q none σ') : pm_call pm_Y0 (d + 2) 61 [.ref 3, .int x, .int (nI k), .int (nI p), .int v] σ Q := by
  obtain ⟨r1, r2, r3, r4, r5, r6, ⟨m, r7, r7'⟩, r8⟩ := hR
  have em := nI_toInt (n := m) (by omega)
  have hl : (L ++ r).length = L.length + r.length := List.length_append
  obtain ⟨a, ha, hxa⟩ := nI_of hx0
  subst hxa
  have ea := nI_toInt (n := a) ha
  have hm : L.length + r.length ≤ 16386 → a = L.length ∧ m = L.length + r.length := fun h => by
    have := (r8 (by omega)).1
    rw [r7', hl] at this
    exact ⟨(nI_eq ha (by omega)).mp (hx (by omega)), (nI_eq (by omega) (by omega)).mp this⟩
  have hful : ¬ m < 16386 → Q none σ := fun h => hQ σ ⟨r1, r2, r3, r4, r5, r6, ⟨m, r7, r7'⟩, fun hl' => by
    rw [tr_len] at hl'
    have := (hm (by omega)).2
    omega⟩
  have hle : m < 16386 → m ≤ a → Q none (ta σ m (nI k) (nI p) v) := fun h h2 => hQ _ ⟨ta_F r1, r2, r3, r4, r5, r6, ⟨m + 1, by omega, rfl⟩, fun hl' => by
    rw [tr_len] at hl'
    obtain ⟨g1, g2⟩ := hm (by omega)
    have hr : r = [] := List.eq_nil_of_length_eq_zero (by omega)
    subst hr
    have hL := r8 (by omega)
    rw [List.append_nil] at hL ⊢
    rw [show m = L.length by simpa using g2]
    exact ta_L hL⟩
  have esub : a ≤ m → nI m - nI a = nI (m - a) := fun h => pk_sub h
  have hfin : m < 16386 → a < m → ∀ σ', σ'.1 = (ta σ m (nI k) (nI p) v).1 → σ'.2.1 = σ.2.1 →
      σ'.2.2 19 = upd (va_cpy (upd (σ.2.2 19) m (nI k)) (upd (σ.2.2 19) m (nI k)) a (a + 1) (m - a)) a (nI k) →
      σ'.2.2 20 = upd (va_cpy (upd (σ.2.2 20) m (nI p)) (upd (σ.2.2 20) m (nI p)) a (a + 1) (m - a)) a (nI p) →
      σ'.2.2 21 = upd (va_cpy (upd (σ.2.2 21) m v) (upd (σ.2.2 21) m v) a (a + 1) (m - a)) a v →
      σ'.2.2 22 = upd (va_cpy (upd (σ.2.2 22) m 1) (upd (σ.2.2 22) m 1) a (a + 1) (m - a)) a (nI (m - a + 1)) →
      (∀ q, q < 19 ∨ 22 < q → σ'.2.2 q = (ta σ m (nI k) (nI p) v).2.2 q) → Q none σ' := fun h h2 σ' f1 f2 f3 f4 f5 f6 f7 => hQ σ' (by
    have hT := ta_F (σ := σ) (m := m) (x := nI k) (y := nI p) (z := v) r1
    refine ⟨⟨fun a b => by rw [f1]; exact hT.1 a b, f2.trans r1.2.1, fun q => ?_⟩, r2, by rw [f1]; exact r3, by rw [f1]; exact r4, by rw [f1]; exact r5, fun z => by rw [f1]; exact r6 z, ⟨m + 1, by omega, by rw [f1]; rfl⟩, fun hl' => ?_⟩
    · by_cases w : 19 ≤ q ∧ q ≤ 26
      · exact Or.inl w
      · rw [f7 q (by omega)]; exact hT.2.2 q
    · rw [tr_len] at hl'
      obtain ⟨g1, g2⟩ := hm (by omega)
      subst g1
      refine tw_L (r8 (by omega)) (by rw [f1]; show nI (m + 1) = _; congr 1; omega) (fun j hj => ?_) (fun q q1 q2 j hj => ?_)
      · rw [f3, f4, f5, f6, tw_at (by omega) (by omega), tw_at (by omega) (by omega), tw_at (by omega) (by omega), tw_at (by omega) (by omega), show m - L.length + 1 = r.length + 1 by omega]
        exact ⟨rfl, rfl, rfl, rfl⟩
      · rw [f7 q (by omega), ← g2]
        have hq : q = 23 ∨ q = 24 ∨ q = 25 ∨ q = 26 := by omega
        rcases hq with z | z | z | z <;> subst z <;> rfl)
  have hgt : nI m - nI a > 0 → a < m := fun z => by
    rcases Nat.lt_or_ge a m with w | w
    · exact w
    · exfalso
      have hs : (nI m - nI a).toInt = (m : Int) - a := by rw [i_sub _ _ (by rw [em, ea]; omega), em, ea]
      rw [gt_iff_lt, i_lt, hs] at z
      have : (0 : Int32).toInt = 0 := rfl
      omega
  clear hQ
  refine wq_m m61 (Nat.le_of_ble_eq_true rfl) (by decide) rfl ?_
  refine wq_l 1 d61_0 rfl rfl rfl rfl ?_
  refine wq_gi (ci := 3) (j := 8) 4 d61_1 rfl rfl rfl rfl ?_
  rw [r7']
  refine wq_l 5 d61_4 rfl rfl rfl rfl ?_
  refine wq_a 6 d61_5 rfl rfl ?_
  refine wq_s 8 d61_6 rfl rfl (Nat.le_of_ble_eq_true rfl) rfl rfl ?_
  refine wq_l 9 d61_8 rfl rfl rfl rfl ?_
  refine wq_l 10 d61_9 rfl rfl rfl rfl ?_
  refine wq_l 11 d61_10 rfl rfl rfl rfl ?_
  refine wq_l 13 d61_11 rfl rfl rfl rfl ?_
  refine wq_v 16 [_, _, _] d61_13 rfl rfl m57 rfl rfl (Nat.le_of_ble_eq_true rfl) rfl (sp57 r7' r7 (fun hlt => ?_) (fun hlt => ?_))
  · have e1 := nI_toInt (n := m) (by omega)
    have t19 : (ta σ m (nI k) (nI p) v).2.2 19 = upd (σ.2.2 19) m (nI k) := rfl
    have t20 : (ta σ m (nI k) (nI p) v).2.2 20 = upd (σ.2.2 20) m (nI p) := rfl
    have t21 : (ta σ m (nI k) (nI p) v).2.2 21 = upd (σ.2.2 21) m v := rfl
    have t22 : (ta σ m (nI k) (nI p) v).2.2 22 = upd (σ.2.2 22) m 1 := rfl
    have tl : (ta σ m (nI k) (nI p) v).2.1 = σ.2.1 := rfl
    have hle := hle hlt
    have hfin := hfin hlt
    generalize ta σ m (nI k) (nI p) v = τ at *
    refine wq_k 17 (-1) d61_16 (by decide) rfl ?_
    refine wq_b 29 20 d61_17 rfl (by decide) rfl (fun c17 => absurd c17 ((by simp only [i_lt, i_le, i_eq, ne_eq, Int32.reduceToInt, b2_0, b2_1, decide_eq_true_eq, decide_eq_false_iff_not, Bool.not_eq_true, Bool.not_eq_false, e1] at * <;> omega))) (fun c17 => ?_)
    refine wq_l 21 d61_20 rfl rfl rfl rfl ?_
    refine wq_b 29 24 d61_21 rfl (by decide) rfl (fun c21 => absurd c21 (hx0)) (fun c21 => ?_)
    refine wq_l 26 d61_24 rfl rfl rfl rfl ?_
    refine wq_b 30 29 d61_26 rfl (by decide) rfl (fun c26 => ?_) (fun c26 => ?_)
    · -- pc 30
      have ham : a < m := hgt c26
      rw [esub (by omega)]
      refine wq_l 31 d61_30 rfl rfl rfl rfl ?_
      refine wq_gr (ci := 3) (j := 0) (q := 19) 34 d61_31 rfl rfl rfl rfl ?_
      refine wq_l 35 d61_34 rfl rfl rfl rfl ?_
      refine wq_l 36 d61_35 rfl rfl rfl rfl ?_
      refine wq_gr (ci := 3) (j := 0) (q := 19) 39 d61_36 rfl rfl rfl rfl ?_
      refine wq_l 40 d61_39 rfl rfl rfl rfl ?_
      refine wq_k 41 1 d61_40 (by decide) rfl ?_
      refine wq_a 42 d61_41 rfl rfl ?_
      refine wq_l 44 d61_42 rfl rfl rfl rfl ?_
      rw [show nI a + 1 = nI (a + 1) from (nI_succ a).symm]
      refine wq_cp 47 d61_44 rfl (by decide) rfl rfl rfl (nI_pos (by omega)) (nI_pos (by omega)) (nI_pos (by omega)) (by rw [nI_clamp (by omega), nI_clamp (by omega)]; omega) (by rw [nI_clamp (by omega), nI_clamp (by omega)]; omega) ?_
      rw [nI_clamp (n := a) (by omega), nI_clamp (n := a + 1) (by omega), nI_clamp (n := m - a) (by omega), t19]
      refine wq_l 48 d61_47 rfl rfl rfl rfl ?_
      refine wq_gr (ci := 3) (j := 1) (q := 20) 51 d61_48 rfl rfl rfl rfl ?_
      refine wq_l 52 d61_51 rfl rfl rfl rfl ?_
      refine wq_l 53 d61_52 rfl rfl rfl rfl ?_
      refine wq_gr (ci := 3) (j := 1) (q := 20) 56 d61_53 rfl rfl rfl rfl ?_
      refine wq_l 57 d61_56 rfl rfl rfl rfl ?_
      refine wq_k 58 1 d61_57 (by decide) rfl ?_
      refine wq_a 59 d61_58 rfl rfl ?_
      refine wq_l 61 d61_59 rfl rfl rfl rfl ?_
      rw [show nI a + 1 = nI (a + 1) from (nI_succ a).symm]
      refine wq_cp 64 d61_61 rfl (by decide) rfl rfl rfl (nI_pos (by omega)) (nI_pos (by omega)) (nI_pos (by omega)) (by rw [nI_clamp (by omega), nI_clamp (by omega)]; omega) (by rw [nI_clamp (by omega), nI_clamp (by omega)]; omega) ?_
      rw [nI_clamp (n := a) (by omega), nI_clamp (n := a + 1) (by omega), nI_clamp (n := m - a) (by omega), pm_rne (a := 20) (q := 19) (by decide), t20]
      refine wq_l 65 d61_64 rfl rfl rfl rfl ?_
      refine wq_gr (ci := 3) (j := 2) (q := 21) 68 d61_65 rfl rfl rfl rfl ?_
      refine wq_l 69 d61_68 rfl rfl rfl rfl ?_
      refine wq_l 70 d61_69 rfl rfl rfl rfl ?_
      refine wq_gr (ci := 3) (j := 2) (q := 21) 73 d61_70 rfl rfl rfl rfl ?_
      refine wq_l 74 d61_73 rfl rfl rfl rfl ?_
      refine wq_k 75 1 d61_74 (by decide) rfl ?_
      refine wq_a 76 d61_75 rfl rfl ?_
      refine wq_l 78 d61_76 rfl rfl rfl rfl ?_
      rw [show nI a + 1 = nI (a + 1) from (nI_succ a).symm]
      refine wq_cp 81 d61_78 rfl (by decide) rfl rfl rfl (nI_pos (by omega)) (nI_pos (by omega)) (nI_pos (by omega)) (by rw [nI_clamp (by omega), nI_clamp (by omega)]; omega) (by rw [nI_clamp (by omega), nI_clamp (by omega)]; omega) ?_
      rw [nI_clamp (n := a) (by omega), nI_clamp (n := a + 1) (by omega), nI_clamp (n := m - a) (by omega), pm_rne (a := 21) (q := 20) (by decide), pm_rne (a := 21) (q := 19) (by decide), t21]
      refine wq_l 82 d61_81 rfl rfl rfl rfl ?_
      refine wq_gr (ci := 3) (j := 3) (q := 22) 85 d61_82 rfl rfl rfl rfl ?_
      refine wq_l 86 d61_85 rfl rfl rfl rfl ?_
      refine wq_l 87 d61_86 rfl rfl rfl rfl ?_
      refine wq_gr (ci := 3) (j := 3) (q := 22) 90 d61_87 rfl rfl rfl rfl ?_
      refine wq_l 91 d61_90 rfl rfl rfl rfl ?_
      refine wq_k 92 1 d61_91 (by decide) rfl ?_
      refine wq_a 93 d61_92 rfl rfl ?_
      refine wq_l 95 d61_93 rfl rfl rfl rfl ?_
      rw [show nI a + 1 = nI (a + 1) from (nI_succ a).symm]
      refine wq_cp 98 d61_95 rfl (by decide) rfl rfl rfl (nI_pos (by omega)) (nI_pos (by omega)) (nI_pos (by omega)) (by rw [nI_clamp (by omega), nI_clamp (by omega)]; omega) (by rw [nI_clamp (by omega), nI_clamp (by omega)]; omega) ?_
      rw [nI_clamp (n := a) (by omega), nI_clamp (n := a + 1) (by omega), nI_clamp (n := m - a) (by omega), pm_rne (a := 22) (q := 21) (by decide), pm_rne (a := 22) (q := 20) (by decide), pm_rne (a := 22) (q := 19) (by decide), t22]
      refine wq_l 99 d61_98 rfl rfl rfl rfl ?_
      refine wq_gr (ci := 3) (j := 0) (q := 19) 102 d61_99 rfl rfl rfl rfl ?_
      refine wq_l 103 d61_102 rfl rfl rfl rfl ?_
      refine wq_l 104 d61_103 rfl rfl rfl rfl ?_
      refine wq_as 105 d61_104 rfl rfl rfl (vp_in_nI (by omega) (by decide)) ?_
      rw [nI_clamp (n := a) (by omega), pm_rne (a := 19) (q := 22) (by decide), pm_rne (a := 19) (q := 21) (by decide), pm_rne (a := 19) (q := 20) (by decide), pm_r22]
      refine wq_l 106 d61_105 rfl rfl rfl rfl ?_
      refine wq_gr (ci := 3) (j := 1) (q := 20) 109 d61_106 rfl rfl rfl rfl ?_
      refine wq_l 110 d61_109 rfl rfl rfl rfl ?_
      refine wq_l 111 d61_110 rfl rfl rfl rfl ?_
      refine wq_as 112 d61_111 rfl rfl rfl (vp_in_nI (by omega) (by decide)) ?_
      rw [nI_clamp (n := a) (by omega), pm_rne (a := 20) (q := 19) (by decide), pm_rne (a := 20) (q := 22) (by decide), pm_rne (a := 20) (q := 21) (by decide), pm_r22]
      refine wq_l 113 d61_112 rfl rfl rfl rfl ?_
      refine wq_gr (ci := 3) (j := 2) (q := 21) 116 d61_113 rfl rfl rfl rfl ?_
      refine wq_l 117 d61_116 rfl rfl rfl rfl ?_
      refine wq_l 119 d61_117 rfl rfl rfl rfl ?_
      refine wq_as 120 d61_119 rfl rfl rfl (vp_in_nI (by omega) (by decide)) ?_
      rw [nI_clamp (n := a) (by omega), pm_rne (a := 21) (q := 20) (by decide), pm_rne (a := 21) (q := 19) (by decide), pm_rne (a := 21) (q := 22) (by decide), pm_r22]
      refine wq_l 121 d61_120 rfl rfl rfl rfl ?_
      refine wq_gr (ci := 3) (j := 3) (q := 22) 124 d61_121 rfl rfl rfl rfl ?_
      refine wq_l 125 d61_124 rfl rfl rfl rfl ?_
      refine wq_l 127 d61_125 rfl rfl rfl rfl ?_
      refine wq_k 128 1 d61_127 (by decide) rfl ?_
      refine wq_a 129 d61_128 rfl rfl ?_
      rw [show nI (m - a) + 1 = nI (m - a + 1) from (nI_succ _).symm]
      refine wq_as 130 d61_129 rfl rfl rfl (vp_in_nI (by omega) (by decide)) ?_
      rw [nI_clamp (n := a) (by omega), pm_rne (a := 22) (q := 21) (by decide), pm_rne (a := 22) (q := 20) (by decide), pm_rne (a := 22) (q := 19) (by decide), pm_r22]
      refine wq_rv d61_130 ?_
      exact hfin ham _ rfl tl (by rw [pm_rne (a := 19) (q := 22) (by decide), pm_rne (a := 19) (q := 21) (by decide), pm_rne (a := 19) (q := 20) (by decide), pm_r22]; rfl) (by rw [pm_rne (a := 20) (q := 22) (by decide), pm_rne (a := 20) (q := 21) (by decide), pm_r22]; rfl) (by rw [pm_rne (a := 21) (q := 22) (by decide), pm_r22]; rfl) pm_r22 (fun q hq => by rw [pm_rne (by omega), pm_rne (by omega), pm_rne (by omega), pm_rne (by omega), pm_rne (by omega), pm_rne (by omega), pm_rne (by omega), pm_rne (by omega)])
    · -- pc 29
      refine wq_rv d61_29 ?_
      exact hle (by rcases Nat.lt_or_ge a m with z | z; (have e2 := nI_toInt (n := m - a) (by omega); rw [esub (by omega)] at c26; exfalso; simp only [i_lt, i_le, i_eq, ne_eq, Int32.reduceToInt, b2_0, b2_1, decide_eq_true_eq, decide_eq_false_iff_not, Bool.not_eq_true, Bool.not_eq_false, e2] at c26; omega); exact z)
  · refine wq_k 17 (-1) d61_16 (by decide) rfl ?_
    refine wq_b 29 20 d61_17 rfl (by decide) rfl (fun _ => ?_) (fun z => absurd rfl z)
    refine wq_rv d61_29 ?_
    exact hful hlt
