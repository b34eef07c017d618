/-! THE CLASS'S BLOCKS: what changes them -/
def cb_U (σ σ' : pm_S) : Prop := (∀ a b, (a = 5 ∧ 8 ≤ b) ∨ σ'.1 a b = σ.1 a b) ∧ σ'.2.1 = σ.2.1 ∧ ∀ k, (27 ≤ k ∧ k ≤ 33) ∨ σ'.2.2 k = σ.2.2 k
theorem cb_Uc {σ0 σ σ' : pm_S} (h : cc_F σ0 σ) (u : cb_U σ σ') : cc_F σ0 σ' := by
  refine ⟨fun a b => ?_, u.2.1.trans h.2.1, fun k => ?_⟩
  · rcases u.1 a b with q | q
    · exact Or.inl q
    · rw [q]; exact h.1 a b
  · rcases u.2.2 k with q | q
    · omega
    · rw [q]; exact h.2.2 k
theorem cb_Ur (σ : pm_S) : cb_U σ σ := ⟨fun _ _ => Or.inr rfl, rfl, fun _ => Or.inr rfl⟩
theorem cb_Ut {σ σ' σ'' : pm_S} (h : cb_U σ σ') (u : cb_U σ' σ'') : cb_U σ σ'' := by
  refine ⟨fun a b => ?_, u.2.1.trans h.2.1, fun k => ?_⟩
  · rcases u.1 a b with q | q
    · exact Or.inl q
    · rw [q]; exact h.1 a b
  · rcases u.2.2 k with q | q
    · exact Or.inl q
    · rw [q]; exact h.2.2 k
theorem cb_Upr {σ σ' : pm_S} {k : Nat} {f : Nat → Int32} (h : cb_U σ σ') (hk : 27 ≤ k ∧ k ≤ 33) : cb_U σ (pm_pr σ' k f) := by
  refine ⟨h.1, h.2.1, fun k' => ?_⟩
  by_cases q : k' = k
  · left; omega
  · rw [pm_rne q]; exact h.2.2 k'
theorem cb_Upi {σ σ' : pm_S} {x : Int32} {j : Nat} (h : cb_U σ σ') (hj : 8 ≤ j) : cb_U σ (pm_pi σ' 5 j x) := by
  refine ⟨fun a b => ?_, h.2.1, h.2.2⟩
  by_cases q : a = 5 ∧ b = j
  · exact Or.inl ⟨q.1, by omega⟩
  · have e : (pm_pi σ' 5 j x).1 a b = σ'.1 a b := by
      unfold pm_pi
      by_cases q1 : a = 5
      · by_cases q2 : b = j
        · exact absurd ⟨q1, q2⟩ q
        · simp [q1, q2]
      · simp [q1]
    rw [e]; exact h.1 a b
/-- the parts that blocks don't touch -/
theorem cb_Uv {NN : Nat} {F : List (Nat × rl_V)} {σ τ : pm_S} (h : cv_I NN F σ) (u : cb_U σ τ) : cv_I NN F τ := cv_x h (fun q _ _ => (u.2.2 q).resolve_left (by omega)) ((u.1 6 8).resolve_left (by omega))
theorem cb_Ud {l : List pg_N} {nx : Nat} {A : rl_A} {σ τ : pm_S} (h : ct_D l nx A σ) (u : cb_U σ τ) : ct_D l nx A τ := ct_x h (fun q _ _ => (u.2.2 q).resolve_left (by omega))
theorem cb_Up {B : List rl_B} {σ τ : pm_S} (h : cp_I B σ) (u : cb_U σ τ) : cp_I B τ := cp_x h ((u.2.2 42).resolve_left (by omega))
theorem cv_Ub {l : List pg_N} {NN : Nat} {B : List rl_B} {σ τ : pm_S} (h : cb_I l NN B σ) (u : cv_U σ τ) : cb_I l NN B τ := cb_x h (fun q _ _ => (u.2.2 q).resolve_left (by omega)) ((u.1 5 8).resolve_left (by omega)) ((u.1 5 10).resolve_left (by omega))
theorem cv_Ud {l : List pg_N} {nx : Nat} {A : rl_A} {σ τ : pm_S} (h : ct_D l nx A σ) (u : cv_U σ τ) : ct_D l nx A τ := ct_x h (fun q _ _ => (u.2.2 q).resolve_left (by omega))
theorem cv_Up {B : List rl_B} {σ τ : pm_S} (h : cp_I B σ) (u : cv_U σ τ) : cp_I B τ := cp_x h ((u.2.2 42).resolve_left (by omega))
/-- another newest block of the same name -/
theorem cb_nms {y y' : rl_B} {r : List rl_B} (hn : y'.2.1 = y.2.1) (x : Int32) : cb_nm (y' :: r) x = cb_nm (y :: r) x := by
  unfold cb_nm
  cases rl_sb x with
  | some s => rfl
  | none =>
    dsimp only
    unfold rl_own
    rw [hn]
    by_cases q : y.2.1 = x
    · rw [if_pos q, if_pos q]; rfl
    · rw [if_neg q, if_neg q]
theorem cb_hd {l : List pg_N} {NN : Nat} {y y' : rl_B} {r : List rl_B} {σ τ : pm_S} (h : cb_I l NN (y :: r) σ) (hk : y'.1 = y.1) (hn : y'.2.1 = y.2.1) (h8 : τ.1 5 8 = σ.1 5 8) (h10 : τ.1 5 10 = σ.1 5 10) (h27 : τ.2.2 27 = σ.2.2 27) (hs : ∀ i, i ≠ 9 + r.length → τ.2.2 28 i = σ.2.2 28 i ∧ τ.2.2 29 i = σ.2.2 29 i ∧ τ.2.2 30 i = σ.2.2 30 i ∧ τ.2.2 31 i = σ.2.2 31 i ∧ τ.2.2 32 i = σ.2.2 32 i) (h33 : ∀ i, i < (9 + r.length) * 8 → τ.2.2 33 i = σ.2.2 33 i) (ha : cb_at l τ r.length y') : cb_I l NN (y' :: r) τ := by
  obtain ⟨g1, g2, g3, g4, g5, g6⟩ := h
  refine ⟨g1, h8.trans g2, ?_, fun s hs9 => ?_, fun b z hb => ?_, fun x hx => ?_⟩
  · rw [h10, g3]
    show b2 (decide (y.1 = 3)) = b2 (decide (y'.1 = 3))
    rw [hk]
  · obtain ⟨a1, a2, _⟩ := hs s (by omega)
    rw [a1, a2]; exact g4 s hs9
  · rw [rl_blkc] at hb
    by_cases q : b = r.length
    · rw [if_pos q] at hb
      cases hb
      rw [q]; exact ha
    · rw [if_neg q] at hb
      have := g5 b z (by rw [rl_blkc, if_neg q]; exact hb)
      have hl := rl_blkl hb
      obtain ⟨a1, a2, a3, a4, a5⟩ := hs (9 + b) (by omega)
      unfold cb_at at *
      rw [a1, a2, a3, a4, a5]
      refine ⟨this.1, this.2.1, this.2.2.1, this.2.2.2.1, this.2.2.2.2.1, fun j t hj ht => ?_⟩
      rw [h33 _ (by omega)]
      exact this.2.2.2.2.2 j t hj ht
  · rw [h27, g6 x hx, cb_nms hn]
theorem cb_atc {l : List pg_N} {NN : Nat} {y : rl_B} {r : List rl_B} {σ : pm_S} (h : cb_I l NN (y :: r) σ) : cb_at l σ r.length y := h.2.2.2.2.1 _ _ (by rw [rl_blkc, if_pos rfl])
theorem cb113 {d : Nat} {σ : pm_S} {Q : Option Value → pm_S → Prop} {l : List pg_N} {NN n : Nat} {y : rl_B} {r : List rl_B} (h : cb_I l NN (y :: r) σ) (hQ : ∀ σ', cb_I l NN ((y.1, y.2.1, y.2.2.1, y.2.2.2.1 + n, y.2.2.2.2) :: r) σ' → cb_U σ σ' → Q (some (.int (nI y.2.2.2.1))) σ') : pm_call pm_Y0 (d + 1) 113 [.ref 5, .int (nI n)] σ Q := by
  have h1 := h.1
  rw [List.length_cons] at h1
  have e : nI (9 + (y :: r).length) - 1 = nI (9 + r.length) := by rw [List.length_cons, show 9 + (r.length + 1) = (9 + r.length) + 1 by omega]; exact nI_pred _
  have ei := nI_toInt (n := 9 + r.length) (by omega)
  have ec := nI_clamp (n := 9 + r.length) (by omega)
  obtain ⟨a1, a2, a3, a4, a5, a6⟩ := cb_atc h
  refine wq_m m113 (Nat.le_of_ble_eq_true rfl) (by decide) rfl ?_
  refine wq_l 1 d113_0 rfl rfl rfl rfl ?_
  refine wq_gf (ci := 5) (j := 8) (f := 0) (v := .int (nI (9 + (y :: r).length))) 4 d113_1 rfl rfl rfl (congrArg Value.int (h.2.1)) rfl ?_
  refine wq_k 5 1 d113_4 (by decide) rfl ?_
  refine wq_a 6 d113_5 rfl rfl ?_
  rw [e]
  refine wq_s 7 d113_6 rfl rfl (Nat.le_of_ble_eq_true rfl) rfl rfl ?_
  refine wq_l 8 d113_7 rfl rfl rfl rfl ?_
  refine wq_b 13 11 d113_8 rfl (by decide) rfl (fun c8 => ?_) (fun c8 => absurd (by rw [i_le, ei]; show (0 : Int) ≤ _; omega) c8)
  refine wq_l 14 d113_13 rfl rfl rfl rfl ?_
  refine wq_gr (ci := 5) (j := 3) (q := 29) 17 d113_14 rfl rfl rfl rfl ?_
  refine wq_l 18 d113_17 rfl rfl rfl rfl ?_
  refine wq_al 19 d113_18 rfl rfl rfl (vp_in_iff.mpr (by rw [ei]; omega)) ?_
  rw [ec, a2]
  refine wq_s 20 d113_19 rfl rfl (Nat.le_of_ble_eq_true rfl) rfl rfl ?_
  refine wq_l 21 d113_20 rfl rfl rfl rfl ?_
  refine wq_gr (ci := 5) (j := 3) (q := 29) 24 d113_21 rfl rfl rfl rfl ?_
  refine wq_l 25 d113_24 rfl rfl rfl rfl ?_
  refine wq_l 26 d113_25 rfl rfl rfl rfl ?_
  refine wq_l 27 d113_26 rfl rfl rfl rfl ?_
  refine wq_a 28 d113_27 rfl rfl ?_
  refine wq_as 29 d113_28 rfl rfl rfl (vp_in_iff.mpr (by rw [ei]; omega)) ?_
  rw [ec, nI_add]
  refine wq_l 30 d113_29 rfl rfl rfl rfl ?_
  refine wq_ri d113_30 (rfl) ?_
  refine hQ _ (cb_hd h rfl rfl rfl rfl rfl (fun i hi => ⟨rfl, ?_, rfl, rfl, rfl⟩) (fun _ _ => rfl) ?_) (cb_Upr (cb_Ur σ) (by decide))
  · show upd _ _ _ i = _; rw [upd_if, if_neg hi]
  · refine ⟨a1, ?_, a3, a4, a5, a6⟩
    show upd _ _ _ (9 + r.length) = _; rw [upd_if, if_pos rfl]; rfl
/-- one input more -/
theorem cb123 {d : Nat} {σ : pm_S} {Q : Option Value → pm_S → Prop} {l : List pg_N} {NN : Nat} {y y' : rl_B} {r : List rl_B} {t : Int32} (h : cb_I l NN (y :: r) σ) (hy : y'.1 = y.1 ∧ y'.2.1 = y.2.1 ∧ y'.2.2.1 = y.2.2.1 ∧ y'.2.2.2.1 = y.2.2.2.1) (hi : rl_ins y' = rl_ins y ++ [t]) (hnn : rl_nin y < 2 ^ 20) (hQ : ∀ σ', cb_I l NN (y' :: r) σ' → cb_U σ σ' → Q none σ') : pm_call pm_Y0 (d + 1) 123 [.ref 5, .int t] σ Q := by
  have h1 := h.1
  rw [List.length_cons] at h1
  have e : nI (9 + (y :: r).length) - 1 = nI (9 + r.length) := by rw [List.length_cons, show 9 + (r.length + 1) = (9 + r.length) + 1 by omega]; exact nI_pred _
  have ei := nI_toInt (n := 9 + r.length) (by omega)
  have ec := nI_clamp (n := 9 + r.length) (by omega)
  obtain ⟨a1, a2, a3, a4, a5, a6⟩ := cb_atc h
  have en := nI_toInt (n := rl_nin y) (by omega)
  have il : ∀ z : rl_B, (rl_ins z).length = rl_nin z := fun z => by unfold rl_ins rl_nin; rw [List.length_reverse, List.length_map]
  have hl := congrArg List.length hi
  rw [List.length_append, il, il, List.length_singleton] at hl
  have em : nI (9 + r.length) * 8 + nI (rl_nin y) = nI ((9 + r.length) * 8 + rl_nin y) := (congrArg (· + _) (Int32.ofNat_mul (9 + r.length) 8).symm).trans (nI_add _ _)
  obtain ⟨y1, y2, y3, y4⟩ := hy
  refine wq_m m123 (Nat.le_of_ble_eq_true rfl) (by decide) rfl ?_
  refine wq_l 1 d123_0 rfl rfl rfl rfl ?_
  refine wq_gf (ci := 5) (j := 8) (f := 0) (v := .int (nI (9 + (y :: r).length))) 4 d123_1 rfl rfl rfl (congrArg Value.int (h.2.1)) rfl ?_
  refine wq_k 5 1 d123_4 (by decide) rfl ?_
  refine wq_a 6 d123_5 rfl rfl ?_
  rw [e]
  refine wq_s 7 d123_6 rfl rfl (Nat.le_of_ble_eq_true rfl) rfl rfl ?_
  refine wq_l 8 d123_7 rfl rfl rfl rfl ?_
  refine wq_b 12 11 d123_8 rfl (by decide) rfl (fun c8 => ?_) (fun c8 => absurd (by rw [i_le, ei]; show (0 : Int) ≤ _; omega) c8)
  refine wq_l 13 d123_12 rfl rfl rfl rfl ?_
  refine wq_gr (ci := 5) (j := 6) (q := 32) 16 d123_13 rfl rfl rfl rfl ?_
  refine wq_l 17 d123_16 rfl rfl rfl rfl ?_
  refine wq_al 18 d123_17 rfl rfl rfl (vp_in_iff.mpr (by rw [ei]; omega)) ?_
  rw [ec, a5]
  refine wq_k 20 8 d123_18 (by decide) rfl ?_
  refine wq_b 40 23 d123_20 rfl (by decide) rfl (fun c20 => ?_) (fun c20 => ?_)
  · -- pc 40
    have c20 : 8 ≤ rl_nin y := by rw [i_le, en] at c20; have c20 : (8 : Int) ≤ _ := c20; omega
    refine wq_l 41 d123_40 rfl rfl rfl rfl ?_
    refine wq_gr (ci := 5) (j := 6) (q := 32) 44 d123_41 rfl rfl rfl rfl ?_
    refine wq_l 45 d123_44 rfl rfl rfl rfl ?_
    refine wq_a 46 d123_45 rfl rfl ?_
    refine wq_al 47 d123_46 rfl rfl rfl (vp_in_iff.mpr (by rw [ei]; omega)) ?_
    rw [ec]
    refine wq_k 48 1 d123_47 (by decide) rfl ?_
    refine wq_a 49 d123_48 rfl rfl ?_
    refine wq_as 50 d123_49 rfl rfl rfl (vp_in_iff.mpr (by rw [ei]; omega)) ?_
    rw [ec]
    refine wq_rv d123_50 ?_
    refine hQ _ (cb_hd h y1 y2 rfl rfl rfl (fun i hi => ⟨rfl, rfl, rfl, rfl, ?_⟩) (fun i hi => ?_) ?_) (cb_Upr (cb_Ur σ) (by decide))
    · show upd _ _ _ i = _; rw [upd_if, if_neg hi]; try rfl
    · rfl
    · refine ⟨y1 ▸ a1, y4 ▸ a2, a3, ?_, ?_, fun j t' hj ht => ?_⟩
      · rw [y1, y3]; exact a4
      · show upd _ _ _ (9 + r.length) = _; rw [upd_if, if_pos rfl, hl, ← nI_1]; show σ.2.2 32 (9 + r.length) + 1 = _; rw [a5]
      · rw [hi] at ht
        by_cases q : j < (rl_ins y).length
        · rw [List.getElem?_append_left q] at ht
          exact a6 j t' hj ht
        · rw [il] at q
          exfalso; omega
  · -- pc 23
    have c20 : rl_nin y < 8 := by rw [i_le, en] at c20; have c20 : ¬ (8 : Int) ≤ _ := c20; omega
    have eq := nI_toInt (n := (9 + r.length) * 8 + rl_nin y) (by omega)
    have eqc := nI_clamp (n := (9 + r.length) * 8 + rl_nin y) (by omega)
    refine wq_l 24 d123_23 rfl rfl rfl rfl ?_
    refine wq_gr (ci := 5) (j := 7) (q := 33) 27 d123_24 rfl rfl rfl rfl ?_
    refine wq_l 28 d123_27 rfl rfl rfl rfl ?_
    refine wq_k 30 8 d123_28 (by decide) rfl ?_
    refine wq_a 31 d123_30 rfl rfl ?_
    refine wq_l 32 d123_31 rfl rfl rfl rfl ?_
    refine wq_gr (ci := 5) (j := 6) (q := 32) 35 d123_32 rfl rfl rfl rfl ?_
    refine wq_l 36 d123_35 rfl rfl rfl rfl ?_
    refine wq_al 37 d123_36 rfl rfl rfl (vp_in_iff.mpr (by rw [ei]; omega)) ?_
    rw [ec, a5]
    refine wq_a 38 d123_37 rfl rfl ?_
    rw [em]
    refine wq_l 39 d123_38 rfl rfl rfl rfl ?_
    refine wq_as 40 d123_39 rfl rfl rfl (vp_in_iff.mpr (by rw [eq]; omega)) ?_
    rw [eqc]
    refine wq_l 41 d123_40 rfl rfl rfl rfl ?_
    refine wq_gr (ci := 5) (j := 6) (q := 32) 44 d123_41 rfl rfl rfl rfl ?_
    refine wq_l 45 d123_44 rfl rfl rfl rfl ?_
    refine wq_a 46 d123_45 rfl rfl ?_
    refine wq_al 47 d123_46 rfl rfl rfl (vp_in_iff.mpr (by rw [ei]; omega)) ?_
    rw [ec]
    refine wq_k 48 1 d123_47 (by decide) rfl ?_
    refine wq_a 49 d123_48 rfl rfl ?_
    refine wq_as 50 d123_49 rfl rfl rfl (vp_in_iff.mpr (by rw [ei]; omega)) ?_
    rw [ec]
    refine wq_rv d123_50 ?_
    refine hQ _ (cb_hd h y1 y2 rfl rfl rfl (fun i hi => ⟨rfl, rfl, rfl, rfl, ?_⟩) (fun i hi => ?_) ?_) (cb_Upr (cb_Upr (cb_Ur σ) (by decide)) (by decide))
    · show upd _ _ _ i = _; rw [upd_if, if_neg hi]; try rfl
    · show upd _ _ _ i = _; rw [upd_if, if_neg (by omega)]
    · refine ⟨y1 ▸ a1, y4 ▸ a2, a3, ?_, ?_, fun j t' hj ht => ?_⟩
      · rw [y1, y3]; exact a4
      · show upd _ _ _ (9 + r.length) = _; rw [upd_if, if_pos rfl, hl, ← nI_1]; show σ.2.2 32 (9 + r.length) + 1 = _; rw [a5]
      · rw [hi] at ht
        by_cases q : j < (rl_ins y).length
        · rw [List.getElem?_append_left q] at ht
          rw [il] at q
          show upd _ _ _ _ = _; rw [upd_if, if_neg (by omega)]; exact a6 j t' hj ht
        · rw [il] at q
          have ej : j = rl_nin y := by
            have := List.getElem?_eq_none_iff (l := rl_ins y ++ [t]) (i := j)
            rcases Nat.lt_or_ge j (rl_nin y + 1) with w | w
            · omega
            · rw [List.getElem?_eq_none (by rw [List.length_append, il, List.length_singleton]; omega)] at ht; cases ht
          rw [List.getElem?_append_right (by rw [il]; omega), il, ej, Nat.sub_self] at ht
          cases ht
          show upd _ _ _ _ = _; rw [upd_if, if_pos (by omega)]; rfl
