/-! the pile of the reference -/
def xe_tk : List xm_I → Int32
  | [] => -2
  | i :: _ => if i.1 = 99 then -1 else nI i.1
theorem xe_lb {t : Nat → Nat} {M n : Nat} {σ0 : pm_S} {h0 : rp_H} {σ : pm_S} {h : rp_H} {c : pg_C} {s b : Nat} {P : List xm_I} {O : List (List pg_N)} {E : List (List hp_N)} (B : xe_B t M n σ0 h0 σ h c s b P O E) : h.1 ≤ 20000 := (xe_Bl B).2.2.2.1.2.1.2.1
theorem xe253 {d : Nat} {Q : Option Value → pm_S → Prop} {t : Nat → Nat} {M n : Nat} {σ0 : pm_S} {h0 : rp_H} {σ : pm_S} {h : rp_H} {c : pg_C} {s b : Nat} {P : List xm_I} {O : List (List pg_N)} {E : List (List hp_N)} (B : xe_B t M n σ0 h0 σ h c s b P O E) (hP : P.length < 400) (hQ : Q (some (.int (xe_tk P))) σ) : pm_call pm_Y0 (d + 1) 253 [.ref 10] σ Q := by
  have h27 := (xe_Bl B).1
  have hl := xe_lb B
  cases P with
  | nil =>
    rw [show ([] : List xm_I).length = 0 from rfl] at h27
    refine wq_m m253 (Nat.le_of_ble_eq_true rfl) (by decide) rfl ?_
    refine wq_l 1 d253_0 rfl rfl rfl rfl ?_
    refine wq_gi (ci := 10) (j := 27) 4 d253_1 rfl rfl rfl rfl ?_
    rw [h27]
    refine wq_b 12 7 d253_4 rfl (by decide) rfl (fun c4 => absurd c4 (by decide)) (fun c4 => ?_)
    refine wq_k 9 (-2) d253_7 (by decide) rfl ?_
    refine wq_g 46 d253_9 (by decide) ?_
    refine wq_ri d253_46 (rfl) ?_
    exact hQ
  | cons i P =>
    rw [List.length_cons] at h27 hP
    obtain ⟨p1, p2, p3⟩ := xe_Bp B
    have e1 := nI_toInt (n := P.length + 1) (by omega)
    have e2 := nI_toInt (n := P.length) (by omega)
    have ck := nI_clamp (n := P.length) (by omega)
    rcases p3 with ⟨q, p4⟩ | ⟨q, a, p4, p5, p6, p7⟩
    · rw [show xe_tk (i :: P) = -1 from if_pos q] at hQ
      refine wq_m m253 (Nat.le_of_ble_eq_true rfl) (by decide) rfl ?_
      refine wq_l 1 d253_0 rfl rfl rfl rfl ?_
      refine wq_gi (ci := 10) (j := 27) 4 d253_1 rfl rfl rfl rfl ?_
      rw [h27]
      refine wq_b 12 7 d253_4 rfl (by decide) rfl (fun c4 => ?_) (fun c4 => absurd (by simp only [i_lt, i_le, i_eq, ne_eq, Int32.reduceToInt, b2_0, b2_1, decide_eq_true_eq, decide_eq_false_iff_not, Bool.not_eq_true, Bool.not_eq_false, e1]; omega) c4)
      refine wq_l 13 d253_12 rfl rfl rfl rfl ?_
      refine wq_gr (ci := 10) (j := 26) (q := 59) 16 d253_13 rfl rfl rfl rfl ?_
      refine wq_l 17 d253_16 rfl rfl rfl rfl ?_
      refine wq_gi (ci := 10) (j := 27) 20 d253_17 rfl rfl rfl rfl ?_
      rw [h27]
      refine wq_k 21 1 d253_20 (by decide) rfl ?_
      refine wq_a 22 d253_21 rfl rfl ?_
      rw [nI_pred]
      refine wq_al 23 d253_22 rfl rfl rfl (vp_in_iff.mpr (by simp only [i_lt, i_le, i_eq, ne_eq, Int32.reduceToInt, b2_0, b2_1, decide_eq_true_eq, decide_eq_false_iff_not, Bool.not_eq_true, Bool.not_eq_false, e2] at * <;> omega)) ?_
      rw [ck, p4]
      refine wq_b 30 26 d253_23 rfl (by decide) rfl (fun c23 => absurd c23 (by decide)) (fun c23 => ?_)
      refine wq_k 27 (-1) d253_26 (by decide) rfl ?_
      refine wq_g 46 d253_27 (by decide) ?_
      refine wq_ri d253_46 (rfl) ?_
      exact hQ
    · rw [show xe_tk (i :: P) = nI i.1 from if_neg q] at hQ
      have ea := nI_toInt (n := a) (by omega)
      refine wq_m m253 (Nat.le_of_ble_eq_true rfl) (by decide) rfl ?_
      refine wq_l 1 d253_0 rfl rfl rfl rfl ?_
      refine wq_gi (ci := 10) (j := 27) 4 d253_1 rfl rfl rfl rfl ?_
      rw [h27]
      refine wq_b 12 7 d253_4 rfl (by decide) rfl (fun c4 => ?_) (fun c4 => absurd (by simp only [i_lt, i_le, i_eq, ne_eq, Int32.reduceToInt, b2_0, b2_1, decide_eq_true_eq, decide_eq_false_iff_not, Bool.not_eq_true, Bool.not_eq_false, e1]; omega) c4)
      refine wq_l 13 d253_12 rfl rfl rfl rfl ?_
      refine wq_gr (ci := 10) (j := 26) (q := 59) 16 d253_13 rfl rfl rfl rfl ?_
      refine wq_l 17 d253_16 rfl rfl rfl rfl ?_
      refine wq_gi (ci := 10) (j := 27) 20 d253_17 rfl rfl rfl rfl ?_
      rw [h27]
      refine wq_k 21 1 d253_20 (by decide) rfl ?_
      refine wq_a 22 d253_21 rfl rfl ?_
      rw [nI_pred]
      refine wq_al 23 d253_22 rfl rfl rfl (vp_in_iff.mpr (by simp only [i_lt, i_le, i_eq, ne_eq, Int32.reduceToInt, b2_0, b2_1, decide_eq_true_eq, decide_eq_false_iff_not, Bool.not_eq_true, Bool.not_eq_false, e2] at * <;> omega)) ?_
      rw [ck, p5]
      refine wq_b 30 26 d253_23 rfl (by decide) rfl (fun c23 => ?_) (fun c23 => absurd (by simp only [i_lt, i_le, i_eq, ne_eq, Int32.reduceToInt, b2_0, b2_1, decide_eq_true_eq, decide_eq_false_iff_not, Bool.not_eq_true, Bool.not_eq_false, ea]; omega) c23)
      refine wq_l 31 d253_30 rfl rfl rfl rfl ?_
      refine wq_gr (ci := 10) (j := 16) (q := 49) 34 d253_31 rfl rfl rfl rfl ?_
      refine wq_l 35 d253_34 rfl rfl rfl rfl ?_
      refine wq_gr (ci := 10) (j := 26) (q := 59) 38 d253_35 rfl rfl rfl rfl ?_
      refine wq_l 39 d253_38 rfl rfl rfl rfl ?_
      refine wq_gi (ci := 10) (j := 27) 42 d253_39 rfl rfl rfl rfl ?_
      rw [h27]
      refine wq_k 43 1 d253_42 (by decide) rfl ?_
      refine wq_a 44 d253_43 rfl rfl ?_
      rw [nI_pred]
      refine wq_al 45 d253_44 rfl rfl rfl (vp_in_iff.mpr (by simp only [i_lt, i_le, i_eq, ne_eq, Int32.reduceToInt, b2_0, b2_1, decide_eq_true_eq, decide_eq_false_iff_not, Bool.not_eq_true, Bool.not_eq_false, e2] at * <;> omega)) ?_
      rw [ck, p5]
      refine wq_al 46 d253_45 rfl rfl rfl (vp_in_iff.mpr (by simp only [i_lt, i_le, i_eq, ne_eq, Int32.reduceToInt, b2_0, b2_1, decide_eq_true_eq, decide_eq_false_iff_not, Bool.not_eq_true, Bool.not_eq_false, ea] at * <;> omega)) ?_
      rw [nI_clamp (n := a) (by omega), p6]
      refine wq_ri d253_46 (rfl) ?_
      exact hQ
theorem xe_gv0 {c : pg_C} {i : xm_I} {P : List xm_I} {l : List pg_N} (h : i.1 ≠ 36) : xm_gv c (i :: P) l = (c, i :: P, l) := by
  unfold xm_gv
  exact if_neg h
theorem xe_gv1 {c : pg_C} {i : xm_I} {P : List xm_I} {l : List pg_N} (h : i.1 = 36) : xm_gv c (i :: P) l = xm_gv (pg_dec c) P (xm_nd i l) := by
  rw [xm_gv]
  exact if_pos h
theorem xel249 {d : Nat} {Q : Option Value → pm_S → Prop} {t : Nat → Nat} {M n : Nat} {σ0 : pm_S} {h0 : rp_H} {s b : Nat} {O : List (List pg_N)} {x : Int32} (hO : O.length < 390) : ∀ (P : List xm_I) (σ : pm_S) (h : rp_H) (c : pg_C) (l : List pg_N), xe_B t M n σ0 h0 σ h c s b P (l :: O) [] → P.length < 390 → (pg_live (pt_T t M n) c → xe_m P ≤ c.2.2) → (∀ σ' h', xe_B t M n σ0 h0 σ' h' (xm_gv c P l).1 s b (xm_gv c P l).2.1 ((xm_gv c P l).2.2 :: O) [] → Q none σ') → pm_WP pm_Y0 (pm_call pm_Y0 (d + 1)) 10 prog_14_method_51_code none Q 20 [.ref 10, .int x] [] σ := by
  intro P
  induction P with
  | nil =>
    intro σ h c l B hP hm hQ
    have h27 := (xe_Bl B).1
    rw [show ([] : List xm_I).length = 0 from rfl] at h27
    refine wq_l 21 d249_20 rfl rfl rfl rfl ?_
    refine wq_gi (ci := 10) (j := 27) 24 d249_21 rfl rfl rfl rfl ?_
    rw [h27]
    refine wq_b 129 27 d249_24 rfl (by decide) rfl (fun c24 => ?_) (fun c24 => absurd (by decide) c24)
    refine wq_rv d249_129 ?_
    exact hQ _ _ B
  | cons i P ih =>
    intro σ h c l B hP hm hQ
    have h27 := (xe_Bl B).1
    have h29 := (xe_Bl B).2.1
    have hl := xe_lb B
    rw [List.length_cons] at h27 hP h29
    obtain ⟨p1, p2, p3⟩ := xe_Bp B
    have e1 := nI_toInt (n := P.length + 1) (by omega)
    have e2 := nI_toInt (n := P.length) (by omega)
    have e3 := nI_toInt (n := O.length) (by omega)
    have ck := nI_clamp (n := P.length) (by omega)
    have co := nI_clamp (n := O.length) (by omega)
    rcases p3 with ⟨q, p4⟩ | ⟨q, a, p4, p5, p6, p7⟩
    · rw [xe_gv0 (by omega)] at hQ
      refine wq_l 21 d249_20 rfl rfl rfl rfl ?_
      refine wq_gi (ci := 10) (j := 27) 24 d249_21 rfl rfl rfl rfl ?_
      rw [h27]
      refine wq_b 129 27 d249_24 rfl (by decide) rfl (fun c24 => absurd c24 (by simp only [i_lt, i_le, i_eq, ne_eq, Int32.reduceToInt, b2_0, b2_1, decide_eq_true_eq, decide_eq_false_iff_not, Bool.not_eq_true, Bool.not_eq_false, e1]; omega)) (fun c24 => ?_)
      refine wq_l 28 d249_27 rfl rfl rfl rfl ?_
      refine wq_gr (ci := 10) (j := 26) (q := 59) 31 d249_28 rfl rfl rfl rfl ?_
      refine wq_l 32 d249_31 rfl rfl rfl rfl ?_
      refine wq_gi (ci := 10) (j := 27) 35 d249_32 rfl rfl rfl rfl ?_
      rw [h27]
      refine wq_k 36 1 d249_35 (by decide) rfl ?_
      refine wq_a 37 d249_36 rfl rfl ?_
      rw [nI_pred]
      refine wq_al 38 d249_37 rfl rfl rfl (vp_in_iff.mpr (by simp only [i_lt, i_le, i_eq, ne_eq, Int32.reduceToInt, b2_0, b2_1, decide_eq_true_eq, decide_eq_false_iff_not, Bool.not_eq_true, Bool.not_eq_false, e2] at * <;> omega)) ?_
      rw [ck, p4]
      refine wq_b 129 41 d249_38 rfl (by decide) rfl (fun c38 => ?_) (fun c38 => absurd (by decide) c38)
      refine wq_rv d249_129 ?_
      exact hQ _ _ B
    · have ea := nI_toInt (n := a) (by omega)
      have ei := nI_toInt (n := i.1) (by omega)
      by_cases q36 : i.1 = 36
      · rw [xe_gv1 q36] at hQ
        have hk0 := xe_k0 (i := i) (P := P) (by omega)
        obtain ⟨a', e, g1, g2, g3, g4, g5, g6, g7⟩ := xe_B36 B q36 (fun z => by have := hm z; omega)
        have eaa : a' = a := hp_inj (by omega) (by omega) (g4.symm.trans p5)
        subst eaa
        refine wq_l 21 d249_20 rfl rfl rfl rfl ?_
        refine wq_gi (ci := 10) (j := 27) 24 d249_21 rfl rfl rfl rfl ?_
        first | rw [h27] | rw [f27] | rw [k27]
        refine wq_b 129 27 d249_24 rfl (by decide) rfl (fun c24 => absurd c24 (by simp only [i_lt, i_le, i_eq, ne_eq, Int32.reduceToInt, b2_0, b2_1, decide_eq_true_eq, decide_eq_false_iff_not, Bool.not_eq_true, Bool.not_eq_false, e1]; omega)) (fun c24 => ?_)
        refine wq_l 28 d249_27 rfl rfl rfl rfl ?_
        refine wq_gr (ci := 10) (j := 26) (q := 59) 31 d249_28 rfl rfl rfl rfl ?_
        refine wq_l 32 d249_31 rfl rfl rfl rfl ?_
        refine wq_gi (ci := 10) (j := 27) 35 d249_32 rfl rfl rfl rfl ?_
        first | rw [h27] | rw [f27] | rw [k27]
        refine wq_k 36 1 d249_35 (by decide) rfl ?_
        refine wq_a 37 d249_36 rfl rfl ?_
        rw [nI_pred]
        refine wq_al 38 d249_37 rfl rfl rfl (vp_in_iff.mpr (by simp only [i_lt, i_le, i_eq, ne_eq, Int32.reduceToInt, b2_0, b2_1, decide_eq_true_eq, decide_eq_false_iff_not, Bool.not_eq_true, Bool.not_eq_false, e2] at * <;> omega)) ?_
        rw [ck, p5]
        refine wq_b 129 41 d249_38 rfl (by decide) rfl (fun c38 => absurd c38 (by simp only [i_lt, i_le, i_eq, ne_eq, Int32.reduceToInt, b2_0, b2_1, decide_eq_true_eq, decide_eq_false_iff_not, Bool.not_eq_true, Bool.not_eq_false, ea]; omega)) (fun c38 => ?_)
        refine wq_l 42 d249_41 rfl rfl rfl rfl ?_
        refine wq_gr (ci := 10) (j := 16) (q := 49) 45 d249_42 rfl rfl rfl rfl ?_
        refine wq_l 46 d249_45 rfl rfl rfl rfl ?_
        refine wq_gr (ci := 10) (j := 26) (q := 59) 49 d249_46 rfl rfl rfl rfl ?_
        refine wq_l 50 d249_49 rfl rfl rfl rfl ?_
        refine wq_gi (ci := 10) (j := 27) 53 d249_50 rfl rfl rfl rfl ?_
        first | rw [h27] | rw [f27] | rw [k27]
        refine wq_k 54 1 d249_53 (by decide) rfl ?_
        refine wq_a 55 d249_54 rfl rfl ?_
        rw [nI_pred]
        refine wq_al 56 d249_55 rfl rfl rfl (vp_in_iff.mpr (by simp only [i_lt, i_le, i_eq, ne_eq, Int32.reduceToInt, b2_0, b2_1, decide_eq_true_eq, decide_eq_false_iff_not, Bool.not_eq_true, Bool.not_eq_false, e2] at * <;> omega)) ?_
        rw [ck, p5]
        refine wq_al 57 d249_56 rfl rfl rfl (vp_in_iff.mpr (by simp only [i_lt, i_le, i_eq, ne_eq, Int32.reduceToInt, b2_0, b2_1, decide_eq_true_eq, decide_eq_false_iff_not, Bool.not_eq_true, Bool.not_eq_false, ea] at * <;> omega)) ?_
        rw [nI_clamp (n := a') (by omega), p6]
        refine wq_k 59 36 d249_57 (by decide) rfl ?_
        refine wq_b 129 62 d249_59 rfl (by decide) rfl (fun c59 => absurd c59 (by rw [q36]; decide)) (fun c59 => ?_)
        refine wq_l 63 d249_62 rfl rfl rfl rfl ?_
        refine wq_a 64 d249_63 rfl rfl ?_
        refine wq_gi (ci := 10) (j := 27) 67 d249_64 rfl rfl rfl rfl ?_
        first | rw [h27] | rw [f27] | rw [k27]
        refine wq_k 68 1 d249_67 (by decide) rfl ?_
        refine wq_a 69 d249_68 rfl rfl ?_
        rw [nI_pred]
        refine wq_pf (ci := 10) (j := 27) 72 d249_69 rfl rfl rfl ⟨rfl, rfl⟩ rfl ?_
        refine wq_l 73 d249_72 rfl rfl rfl rfl ?_
        refine wq_a 74 d249_73 rfl rfl ?_
        refine wq_gi (ci := 10) (j := 8) 77 d249_74 rfl rfl rfl rfl ?_
        refine wq_k 78 1 d249_77 (by decide) rfl ?_
        refine wq_a 79 d249_78 rfl rfl ?_
        rw [show (pm_pi σ 10 27 (nI P.length)).1 10 8 = σ.1 10 8 from rfl]
        refine wq_pf (ci := 10) (j := 8) 82 d249_79 rfl rfl rfl ⟨rfl, rfl⟩ rfl ?_
        have f27 : (pm_pi (pm_pi σ 10 27 (nI P.length)) 10 8 (σ.1 10 8 - 1)).1 10 27 = nI P.length := rfl
        have f29 : (pm_pi (pm_pi σ 10 27 (nI P.length)) 10 8 (σ.1 10 8 - 1)).1 10 29 = nI (O.length + 1) := h29
        have f59 : (pm_pi (pm_pi σ 10 27 (nI P.length)) 10 8 (σ.1 10 8 - 1)).2.2 59 P.length = nI a' := p5
        have f60 : (pm_pi (pm_pi σ 10 27 (nI P.length)) 10 8 (σ.1 10 8 - 1)).2.2 60 O.length = nI e := g5
        generalize pm_pi (pm_pi σ 10 27 (nI P.length)) 10 8 (σ.1 10 8 - 1) = σ1 at *
        refine wq_l 83 d249_82 rfl rfl rfl rfl ?_
        refine wq_l 84 d249_83 rfl rfl rfl rfl ?_
        refine wq_gr (ci := 10) (j := 26) (q := 59) 87 d249_84 rfl rfl rfl rfl ?_
        refine wq_l 88 d249_87 rfl rfl rfl rfl ?_
        refine wq_gi (ci := 10) (j := 27) 91 d249_88 rfl rfl rfl rfl ?_
        first | rw [h27] | rw [f27] | rw [k27]
        refine wq_al 92 d249_91 rfl rfl rfl (vp_in_iff.mpr (by simp only [i_lt, i_le, i_eq, ne_eq, Int32.reduceToInt, b2_0, b2_1, decide_eq_true_eq, decide_eq_false_iff_not, Bool.not_eq_true, Bool.not_eq_false, e2] at * <;> omega)) ?_
        rw [ck, f59]
        refine wq_l 93 d249_92 rfl rfl rfl rfl ?_
        refine wq_gr (ci := 10) (j := 28) (q := 60) 96 d249_93 rfl rfl rfl rfl ?_
        refine wq_l 97 d249_96 rfl rfl rfl rfl ?_
        refine wq_gi (ci := 10) (j := 29) 100 d249_97 rfl rfl rfl rfl ?_
        first | rw [f29] | rw [k29]
        refine wq_k 101 1 d249_100 (by decide) rfl ?_
        refine wq_a 102 d249_101 rfl rfl ?_
        rw [nI_pred]
        refine wq_al 103 d249_102 rfl rfl rfl (vp_in_iff.mpr (by simp only [i_lt, i_le, i_eq, ne_eq, Int32.reduceToInt, b2_0, b2_1, decide_eq_true_eq, decide_eq_false_iff_not, Bool.not_eq_true, Bool.not_eq_false, e3] at * <;> omega)) ?_
        rw [co, f60]
        refine wq_v 106 [_, _] d249_103 rfl rfl m227 rfl rfl (Nat.le_of_ble_eq_true rfl) rfl (rp_add g6 g1 g2 g3 (fun σ2 h2 F2 => ?_))
        have k27 : σ2.1 10 27 = nI P.length := by rw [F2.1]; exact f27
        have k29 : σ2.1 10 29 = nI (O.length + 1) := by rw [F2.1]; exact f29
        have k59 : σ2.2.2 59 P.length = nI a' := by rw [(F2.2.2 59).resolve_left (by omega)]; exact f59
        refine wq_l 107 d249_106 rfl rfl rfl rfl ?_
        refine wq_gr (ci := 10) (j := 28) (q := 60) 110 d249_107 rfl rfl rfl rfl ?_
        refine wq_l 111 d249_110 rfl rfl rfl rfl ?_
        refine wq_gi (ci := 10) (j := 29) 114 d249_111 rfl rfl rfl rfl ?_
        first | rw [f29] | rw [k29]
        refine wq_k 115 1 d249_114 (by decide) rfl ?_
        refine wq_a 116 d249_115 rfl rfl ?_
        rw [nI_pred]
        refine wq_l 117 d249_116 rfl rfl rfl rfl ?_
        refine wq_gr (ci := 10) (j := 26) (q := 59) 120 d249_117 rfl rfl rfl rfl ?_
        refine wq_l 121 d249_120 rfl rfl rfl rfl ?_
        refine wq_gi (ci := 10) (j := 27) 124 d249_121 rfl rfl rfl rfl ?_
        first | rw [h27] | rw [f27] | rw [k27]
        refine wq_al 125 d249_124 rfl rfl rfl (vp_in_iff.mpr (by simp only [i_lt, i_le, i_eq, ne_eq, Int32.reduceToInt, b2_0, b2_1, decide_eq_true_eq, decide_eq_false_iff_not, Bool.not_eq_true, Bool.not_eq_false, e2] at * <;> omega)) ?_
        rw [ck, k59]
        refine wq_as 126 d249_125 rfl rfl rfl (vp_in_iff.mpr (by simp only [i_lt, i_le, i_eq, ne_eq, Int32.reduceToInt, b2_0, b2_1, decide_eq_true_eq, decide_eq_false_iff_not, Bool.not_eq_true, Bool.not_eq_false, e3] at * <;> omega)) ?_
        rw [co]
        refine wq_g 20 d249_126 (by decide) ?_
        exact ih _ _ _ _ (g7 σ2 h2 F2) (by omega) (fun z => by have hz : pg_live (pt_T t M n) c := z; have := hm hz; show xe_m P ≤ c.2.2 - 1; omega) hQ
      · rw [xe_gv0 q36] at hQ
        refine wq_l 21 d249_20 rfl rfl rfl rfl ?_
        refine wq_gi (ci := 10) (j := 27) 24 d249_21 rfl rfl rfl rfl ?_
        rw [h27]
        refine wq_b 129 27 d249_24 rfl (by decide) rfl (fun c24 => absurd c24 (by simp only [i_lt, i_le, i_eq, ne_eq, Int32.reduceToInt, b2_0, b2_1, decide_eq_true_eq, decide_eq_false_iff_not, Bool.not_eq_true, Bool.not_eq_false, e1]; omega)) (fun c24 => ?_)
        refine wq_l 28 d249_27 rfl rfl rfl rfl ?_
        refine wq_gr (ci := 10) (j := 26) (q := 59) 31 d249_28 rfl rfl rfl rfl ?_
        refine wq_l 32 d249_31 rfl rfl rfl rfl ?_
        refine wq_gi (ci := 10) (j := 27) 35 d249_32 rfl rfl rfl rfl ?_
        rw [h27]
        refine wq_k 36 1 d249_35 (by decide) rfl ?_
        refine wq_a 37 d249_36 rfl rfl ?_
        rw [nI_pred]
        refine wq_al 38 d249_37 rfl rfl rfl (vp_in_iff.mpr (by simp only [i_lt, i_le, i_eq, ne_eq, Int32.reduceToInt, b2_0, b2_1, decide_eq_true_eq, decide_eq_false_iff_not, Bool.not_eq_true, Bool.not_eq_false, e2] at * <;> omega)) ?_
        rw [ck, p5]
        refine wq_b 129 41 d249_38 rfl (by decide) rfl (fun c38 => absurd c38 (by simp only [i_lt, i_le, i_eq, ne_eq, Int32.reduceToInt, b2_0, b2_1, decide_eq_true_eq, decide_eq_false_iff_not, Bool.not_eq_true, Bool.not_eq_false, ea]; omega)) (fun c38 => ?_)
        refine wq_l 42 d249_41 rfl rfl rfl rfl ?_
        refine wq_gr (ci := 10) (j := 16) (q := 49) 45 d249_42 rfl rfl rfl rfl ?_
        refine wq_l 46 d249_45 rfl rfl rfl rfl ?_
        refine wq_gr (ci := 10) (j := 26) (q := 59) 49 d249_46 rfl rfl rfl rfl ?_
        refine wq_l 50 d249_49 rfl rfl rfl rfl ?_
        refine wq_gi (ci := 10) (j := 27) 53 d249_50 rfl rfl rfl rfl ?_
        rw [h27]
        refine wq_k 54 1 d249_53 (by decide) rfl ?_
        refine wq_a 55 d249_54 rfl rfl ?_
        rw [nI_pred]
        refine wq_al 56 d249_55 rfl rfl rfl (vp_in_iff.mpr (by simp only [i_lt, i_le, i_eq, ne_eq, Int32.reduceToInt, b2_0, b2_1, decide_eq_true_eq, decide_eq_false_iff_not, Bool.not_eq_true, Bool.not_eq_false, e2] at * <;> omega)) ?_
        rw [ck, p5]
        refine wq_al 57 d249_56 rfl rfl rfl (vp_in_iff.mpr (by simp only [i_lt, i_le, i_eq, ne_eq, Int32.reduceToInt, b2_0, b2_1, decide_eq_true_eq, decide_eq_false_iff_not, Bool.not_eq_true, Bool.not_eq_false, ea] at * <;> omega)) ?_
        rw [nI_clamp (n := a) (by omega), p6]
        refine wq_k 59 36 d249_57 (by decide) rfl ?_
        refine wq_b 129 62 d249_59 rfl (by decide) rfl (fun c59 => ?_) (fun c59 => absurd (by simp only [i_lt, i_le, i_eq, ne_eq, Int32.reduceToInt, b2_0, b2_1, decide_eq_true_eq, decide_eq_false_iff_not, Bool.not_eq_true, Bool.not_eq_false, ei]; omega) c59)
        refine wq_rv d249_129 ?_
        exact hQ _ _ B
theorem xe249 {d : Nat} {Q : Option Value → pm_S → Prop} {t : Nat → Nat} {M n : Nat} {σ0 : pm_S} {h0 : rp_H} {σ : pm_S} {h : rp_H} {c : pg_C} {s b : Nat} {P : List xm_I} {O : List (List pg_N)} {x : hp_N} {la : List hp_N} {l : List pg_N} {e : Nat} (hO : O.length < 390) (hP : P.length < 390) (B : xe_B t M n σ0 h0 σ h c s b P O [x :: la]) (hl : (x :: la).map (·.1) = l) (he : x.2 = e) (hm : pg_live (pt_T t M n) c → xe_m P ≤ c.2.2) (hQ : ∀ σ' h', xe_B t M n σ0 h0 σ' h' (xm_gv c P l).1 s b (xm_gv c P l).2.1 ((xm_gv c P l).2.2 :: O) [] → Q none σ') : pm_call pm_Y0 (d + 2) 249 [.ref 10, .int (nI e)] σ Q := by
  subst he
  have h29 := (xe_Bl B).2.1
  have eo := nI_toInt (n := O.length) (by omega)
  have co := nI_clamp (n := O.length) (by omega)
  refine wq_m m249 (Nat.le_of_ble_eq_true rfl) (by decide) rfl ?_
  refine wq_l 1 d249_0 rfl rfl rfl rfl ?_
  refine wq_gr (ci := 10) (j := 28) (q := 60) 4 d249_1 rfl rfl rfl rfl ?_
  refine wq_l 5 d249_4 rfl rfl rfl rfl ?_
  refine wq_gi (ci := 10) (j := 29) 8 d249_5 rfl rfl rfl rfl ?_
  first | rw [h29] | simp only [pm_r1r, h29]
  refine wq_l 9 d249_8 rfl rfl rfl rfl ?_
  refine wq_as 10 d249_9 rfl rfl rfl (vp_in_iff.mpr (by simp only [i_lt, i_le, i_eq, ne_eq, Int32.reduceToInt, b2_0, b2_1, decide_eq_true_eq, decide_eq_false_iff_not, Bool.not_eq_true, Bool.not_eq_false, eo] at * <;> omega)) ?_
  rw [co]
  refine wq_l 11 d249_10 rfl rfl rfl rfl ?_
  refine wq_a 12 d249_11 rfl rfl ?_
  refine wq_gi (ci := 10) (j := 29) 15 d249_12 rfl rfl rfl rfl ?_
  first | rw [h29] | simp only [pm_r1r, h29]
  refine wq_k 16 1 d249_15 (by decide) rfl ?_
  refine wq_a 17 d249_16 rfl rfl ?_
  rw [show nI O.length + 1 = nI (O.length + 1) from (nI_succ _).symm]
  refine wq_pf (ci := 10) (j := 29) 20 d249_17 rfl rfl rfl ⟨rfl, rfl⟩ rfl ?_
  exact xel249 hO P _ h c l (xe_Bg B hl) hP hm hQ
theorem xe_st0 {k : Nat} {i : xm_I} {P : List xm_I} {O : List (List pg_N)} (h : ¬ (i.1 = 35 ∧ k ≤ pg_bind i.2.2.1.toNatClampNeg + 1)) : xm_set k (i :: P) O = (i :: P, O) := by
  match O with
  | [] => unfold xm_set; rfl
  | [b] => unfold xm_set; rfl
  | b :: a :: O => unfold xm_set; exact if_neg h
theorem xe_st1 {k : Nat} {i : xm_I} {P : List xm_I} {O : List (List pg_N)} {b a : List pg_N} (h : i.1 = 35 ∧ k ≤ pg_bind i.2.2.1.toNatClampNeg + 1) : xm_set k (i :: P) (b :: a :: O) = xm_set k P (xm_nd i (a ++ b) :: O) := by
  rw [xm_set]
  exact if_pos h
theorem xe_bd : ∀ g, g ≤ 13 → pg_bind g ≤ 6 := by decide
theorem xe_stn0 {k : Nat} {O : List (List pg_N)} : xm_set k [] O = ([], O) := by unfold xm_set; rfl
theorem nI_m2 (n : Nat) : nI (n + 2) - 2 = nI n := by
  rw [show (2 : Int32) = 1 + 1 from rfl, ← Int32.sub_sub, nI_pred, nI_pred]
theorem xel252 {d : Nat} {Q : Option Value → pm_S → Prop} {t : Nat → Nat} {M n : Nat} {σ0 : pm_S} {h0 : rp_H} {c : pg_C} {s b k : Nat} (hk : k ≤ 7) (hl : pg_live (pt_T t M n) c) : ∀ (P : List xm_I) (O : List (List pg_N)) (σ : pm_S) (h : rp_H), xe_B t M n σ0 h0 σ h c s b P O [] → P.length < 390 → O.length < 390 → O.length = xe_k P + 1 → (∀ σ' h', xe_B t M n σ0 h0 σ' h' c s b (xm_set k P O).1 (xm_set k P O).2 [] → Q none σ') → pm_WP pm_Y0 (pm_call pm_Y0 (d + 1)) 10 prog_14_method_53_code none Q 0 [.ref 10, .int (nI k)] [] σ := by
  intro P
  induction P with
  | nil =>
    intro O σ h B hP hO hko hQ
    rw [xe_stn0] at hQ
    refine wq_l 1 d252_0 rfl rfl rfl rfl ?_
    refine wq_v 4 [] d252_1 rfl rfl m253 rfl rfl (Nat.le_of_ble_eq_true rfl) rfl (xe253 B (by omega) ?_)
    refine wq_k 6 35 d252_4 (by decide) rfl ?_
    refine wq_b 129 9 d252_6 rfl (by decide) rfl (fun c6 => ?_) (fun c6 => absurd (by show ¬ ((-2 : Int32) = 35); decide) c6)
    refine wq_rv d252_129 ?_
    exact hQ _ _ B
  | cons i P ih =>
    intro O σ h B hP hO hko hQ
    have h27 := (xe_Bl B).1
    have h29 := (xe_Bl B).2.1
    have hlb := xe_lb B
    rw [List.length_cons] at h27 hP
    obtain ⟨p1, p2, p3⟩ := xe_Bp B
    have e1 := nI_toInt (n := P.length + 1) (by omega)
    have e2 := nI_toInt (n := P.length) (by omega)
    have ck := nI_clamp (n := P.length) (by omega)
    by_cases q35 : i.1 = 35
    · rcases p3 with ⟨q, p4⟩ | ⟨q, a, p4, p5, p6, p7⟩
      · omega
      · have ea := nI_toInt (n := a) (by omega)
        have ca := nI_clamp (n := a) (by omega)
        obtain ⟨g, hg, hig⟩ := p2 q35
        have hv := p7 (rp_l0 (xe_Bl B).2.2.2.1 hl)
        have hv : σ.2.2 51 a = nI g := by
          unfold rp_V at hv
          rw [q35, if_neg (by decide)] at hv
          rw [hv, hig]
        have htk : xe_tk (i :: P) = 35 := (if_neg q).trans (by rw [q35]; rfl)
        have hbd := xe_bd g hg
        have eg := nI_toInt (n := pg_bind g + 1) (by omega)
        have ek := nI_toInt (n := k) (by omega)
        have hgc : i.2.2.1.toNatClampNeg = g := by rw [hig]; exact nI_clamp (by omega)
        refine wq_l 1 d252_0 rfl rfl rfl rfl ?_
        refine wq_v 4 [] d252_1 rfl rfl m253 rfl rfl (Nat.le_of_ble_eq_true rfl) rfl (xe253 B (by rw [List.length_cons]; omega) ?_)
        rw [htk]
        refine wq_k 6 35 d252_4 (by decide) rfl ?_
        refine wq_b 129 9 d252_6 rfl (by decide) rfl (fun c6 => absurd c6 (by decide)) (fun c6 => ?_)
        refine wq_l 10 d252_9 rfl rfl rfl rfl ?_
        refine wq_gr (ci := 10) (j := 18) (q := 51) 13 d252_10 rfl rfl rfl rfl ?_
        refine wq_l 14 d252_13 rfl rfl rfl rfl ?_
        refine wq_gr (ci := 10) (j := 26) (q := 59) 17 d252_14 rfl rfl rfl rfl ?_
        refine wq_l 18 d252_17 rfl rfl rfl rfl ?_
        refine wq_gi (ci := 10) (j := 27) 21 d252_18 rfl rfl rfl rfl ?_
        first | rw [h27] | rw [f27] | rw [k27] | rw [j27]
        refine wq_k 22 1 d252_21 (by decide) rfl ?_
        refine wq_a 23 d252_22 rfl rfl ?_
        rw [nI_pred]
        refine wq_al 24 d252_23 rfl rfl rfl (vp_in_iff.mpr (by simp only [i_lt, i_le, i_eq, ne_eq, Int32.reduceToInt, b2_0, b2_1, decide_eq_true_eq, decide_eq_false_iff_not, Bool.not_eq_true, Bool.not_eq_false, e2] at * <;> omega)) ?_
        rw [ck, p5]
        refine wq_al 25 d252_24 rfl rfl rfl (vp_in_iff.mpr (by simp only [i_lt, i_le, i_eq, ne_eq, Int32.reduceToInt, b2_0, b2_1, decide_eq_true_eq, decide_eq_false_iff_not, Bool.not_eq_true, Bool.not_eq_false, ea] at * <;> omega)) ?_
        rw [ca, hv]
        refine wq_vs 28 [_] d252_25 rfl rfl m254 rfl (Nat.le_of_ble_eq_true rfl) rfl (sp254 hg ?_)
        refine wq_l 29 d252_28 rfl rfl rfl rfl ?_
        refine wq_b 129 32 d252_29 rfl (by decide) rfl (fun c29 => ?_) (fun c29 => ?_)
        · -- pc 129
          refine wq_rv d252_129 ?_
          rw [xe_st0 (fun z => by have z2 := z.2; rw [hgc] at z2; have y := c29; simp only [i_lt, i_le, i_eq, ne_eq, Int32.reduceToInt, b2_0, b2_1, decide_eq_true_eq, decide_eq_false_iff_not, Bool.not_eq_true, Bool.not_eq_false, eg, ek] at y; omega)] at hQ
          exact hQ _ _ B
        · -- pc 32
          have hge : i.1 = 35 ∧ k ≤ pg_bind i.2.2.1.toNatClampNeg + 1 := ⟨q35, by rw [hgc]; have z := c29; simp only [i_lt, i_le, i_eq, ne_eq, Int32.reduceToInt, b2_0, b2_1, decide_eq_true_eq, decide_eq_false_iff_not, Bool.not_eq_true, Bool.not_eq_false, eg, ek] at z; omega⟩
          have hk1 := xe_k1 (P := P) q35
          obtain ⟨l2, l1, O', hOO⟩ : ∃ l2 l1 O', O = l2 :: l1 :: O' := by
            match O, hko with
            | [], z => simp only [List.length_nil] at z; omega
            | [_], z => simp only [List.length_cons, List.length_nil] at z; omega
            | l2 :: l1 :: O', _ => exact ⟨l2, l1, O', rfl⟩
          subst hOO
          rw [xe_st1 hge] at hQ
          have hO : O'.length + 2 < 390 := hO
          have h29 : σ.1 10 29 = nI (O'.length + 2) := h29
          have hko : O'.length + 2 = xe_k (i :: P) + 1 := hko
          have e3 := nI_toInt (n := O'.length) (by omega)
          have e4 := nI_toInt (n := O'.length + 1) (by omega)
          have co := nI_clamp (n := O'.length) (by omega)
          have co1 := nI_clamp (n := O'.length + 1) (by omega)
          obtain ⟨a', x1, x2, g1, g2, g3, g4, g5, g6, g7, g8, g9, g10⟩ := xe_B35 B q35
          have eaa : a' = a := hp_inj (by omega) (by omega) (g6.symm.trans p5)
          subst eaa
          refine wq_l 33 d252_32 rfl rfl rfl rfl ?_
          refine wq_a 34 d252_33 rfl rfl ?_
          refine wq_gi (ci := 10) (j := 27) 37 d252_34 rfl rfl rfl rfl ?_
          first | rw [h27] | rw [f27] | rw [k27] | rw [j27]
          refine wq_k 38 1 d252_37 (by decide) rfl ?_
          refine wq_a 39 d252_38 rfl rfl ?_
          rw [nI_pred]
          refine wq_pf (ci := 10) (j := 27) 42 d252_39 rfl rfl rfl ⟨rfl, rfl⟩ rfl ?_
          refine wq_l 43 d252_42 rfl rfl rfl rfl ?_
          refine wq_a 44 d252_43 rfl rfl ?_
          refine wq_gi (ci := 10) (j := 29) 47 d252_44 rfl rfl rfl rfl ?_
          first | rw [show (pm_pi σ 10 27 (nI P.length)).1 10 29 = nI (O'.length + 2) from h29] | rw [f29] | rw [k29] | rw [j29] | simp only [pm_r1r, j29]
          refine wq_k 48 2 d252_47 (by decide) rfl ?_
          refine wq_a 49 d252_48 rfl rfl ?_
          rw [nI_m2]
          refine wq_pf (ci := 10) (j := 29) 52 d252_49 rfl rfl rfl ⟨rfl, rfl⟩ rfl ?_
          have f27 : (pm_pi (pm_pi σ 10 27 (nI P.length)) 10 29 (nI O'.length)).1 10 27 = nI P.length := rfl
          have f29 : (pm_pi (pm_pi σ 10 27 (nI P.length)) 10 29 (nI O'.length)).1 10 29 = nI O'.length := rfl
          have f59 : (pm_pi (pm_pi σ 10 27 (nI P.length)) 10 29 (nI O'.length)).2.2 59 P.length = nI a' := p5
          have f60 : (pm_pi (pm_pi σ 10 27 (nI P.length)) 10 29 (nI O'.length)).2.2 60 O'.length = nI x1 := g7
          have f61 : (pm_pi (pm_pi σ 10 27 (nI P.length)) 10 29 (nI O'.length)).2.2 60 (O'.length + 1) = nI x2 := g8
          generalize pm_pi (pm_pi σ 10 27 (nI P.length)) 10 29 (nI O'.length) = σ1 at *
          refine wq_l 53 d252_52 rfl rfl rfl rfl ?_
          refine wq_l 54 d252_53 rfl rfl rfl rfl ?_
          refine wq_gr (ci := 10) (j := 26) (q := 59) 57 d252_54 rfl rfl rfl rfl ?_
          refine wq_l 58 d252_57 rfl rfl rfl rfl ?_
          refine wq_gi (ci := 10) (j := 27) 61 d252_58 rfl rfl rfl rfl ?_
          first | rw [h27] | rw [f27] | rw [k27] | rw [j27]
          refine wq_al 62 d252_61 rfl rfl rfl (vp_in_iff.mpr (by simp only [i_lt, i_le, i_eq, ne_eq, Int32.reduceToInt, b2_0, b2_1, decide_eq_true_eq, decide_eq_false_iff_not, Bool.not_eq_true, Bool.not_eq_false, e2] at * <;> omega)) ?_
          rw [ck, f59]
          refine wq_l 63 d252_62 rfl rfl rfl rfl ?_
          refine wq_gr (ci := 10) (j := 28) (q := 60) 66 d252_63 rfl rfl rfl rfl ?_
          refine wq_l 67 d252_66 rfl rfl rfl rfl ?_
          refine wq_gi (ci := 10) (j := 29) 70 d252_67 rfl rfl rfl rfl ?_
          first | rw [show (pm_pi σ 10 27 (nI P.length)).1 10 29 = nI (O'.length + 2) from h29] | rw [f29] | rw [k29] | rw [j29] | simp only [pm_r1r, j29]
          refine wq_al 71 d252_70 rfl rfl rfl (vp_in_iff.mpr (by simp only [i_lt, i_le, i_eq, ne_eq, Int32.reduceToInt, b2_0, b2_1, decide_eq_true_eq, decide_eq_false_iff_not, Bool.not_eq_true, Bool.not_eq_false, e3] at * <;> omega)) ?_
          rw [co, f60]
          refine wq_v 74 [_, _] d252_71 rfl rfl m227 rfl rfl (Nat.le_of_ble_eq_true rfl) rfl (rp_add g9 g1 g2 g4 (fun σ2 h2 F2 => ?_))
          have k27 : σ2.1 10 27 = nI P.length := by rw [F2.1]; exact f27
          have k29 : σ2.1 10 29 = nI O'.length := by rw [F2.1]; exact f29
          have k59 : σ2.2.2 59 P.length = nI a' := by rw [(F2.2.2 59).resolve_left (by omega)]; exact f59
          have k61 : σ2.2.2 60 (O'.length + 1) = nI x2 := by rw [(F2.2.2 60).resolve_left (by omega)]; exact f61
          refine wq_l 75 d252_74 rfl rfl rfl rfl ?_
          refine wq_l 76 d252_75 rfl rfl rfl rfl ?_
          refine wq_gr (ci := 10) (j := 26) (q := 59) 79 d252_76 rfl rfl rfl rfl ?_
          refine wq_l 80 d252_79 rfl rfl rfl rfl ?_
          refine wq_gi (ci := 10) (j := 27) 83 d252_80 rfl rfl rfl rfl ?_
          first | rw [h27] | rw [f27] | rw [k27] | rw [j27]
          refine wq_al 84 d252_83 rfl rfl rfl (vp_in_iff.mpr (by simp only [i_lt, i_le, i_eq, ne_eq, Int32.reduceToInt, b2_0, b2_1, decide_eq_true_eq, decide_eq_false_iff_not, Bool.not_eq_true, Bool.not_eq_false, e2] at * <;> omega)) ?_
          rw [ck, k59]
          refine wq_l 85 d252_84 rfl rfl rfl rfl ?_
          refine wq_gr (ci := 10) (j := 28) (q := 60) 88 d252_85 rfl rfl rfl rfl ?_
          refine wq_l 89 d252_88 rfl rfl rfl rfl ?_
          refine wq_gi (ci := 10) (j := 29) 92 d252_89 rfl rfl rfl rfl ?_
          first | rw [show (pm_pi σ 10 27 (nI P.length)).1 10 29 = nI (O'.length + 2) from h29] | rw [f29] | rw [k29] | rw [j29] | simp only [pm_r1r, j29]
          refine wq_k 93 1 d252_92 (by decide) rfl ?_
          refine wq_a 94 d252_93 rfl rfl ?_
          rw [show nI O'.length + 1 = nI (O'.length + 1) from (nI_succ _).symm]
          refine wq_al 95 d252_94 rfl rfl rfl (vp_in_iff.mpr (by simp only [i_lt, i_le, i_eq, ne_eq, Int32.reduceToInt, b2_0, b2_1, decide_eq_true_eq, decide_eq_false_iff_not, Bool.not_eq_true, Bool.not_eq_false, e4] at * <;> omega)) ?_
          rw [co1, k61]
          refine wq_v 98 [_, _] d252_95 rfl rfl m227 rfl rfl (Nat.le_of_ble_eq_true rfl) rfl (rp_add h2 g1 g3 g5 (fun σ3 h3 F3 => ?_))
          have j27 : σ3.1 10 27 = nI P.length := by rw [F3.1]; exact k27
          have j29 : σ3.1 10 29 = nI O'.length := by rw [F3.1]; exact k29
          have j59 : σ3.2.2 59 P.length = nI a' := by rw [(F3.2.2 59).resolve_left (by omega)]; exact k59
          refine wq_l 99 d252_98 rfl rfl rfl rfl ?_
          refine wq_gr (ci := 10) (j := 28) (q := 60) 102 d252_99 rfl rfl rfl rfl ?_
          refine wq_l 103 d252_102 rfl rfl rfl rfl ?_
          refine wq_gi (ci := 10) (j := 29) 106 d252_103 rfl rfl rfl rfl ?_
          first | rw [show (pm_pi σ 10 27 (nI P.length)).1 10 29 = nI (O'.length + 2) from h29] | rw [f29] | rw [k29] | rw [j29] | simp only [pm_r1r, j29]
          refine wq_l 107 d252_106 rfl rfl rfl rfl ?_
          refine wq_gr (ci := 10) (j := 26) (q := 59) 110 d252_107 rfl rfl rfl rfl ?_
          refine wq_l 111 d252_110 rfl rfl rfl rfl ?_
          refine wq_gi (ci := 10) (j := 27) 114 d252_111 rfl rfl rfl rfl ?_
          first | rw [h27] | rw [f27] | rw [k27] | rw [j27]
          refine wq_al 115 d252_114 rfl rfl rfl (vp_in_iff.mpr (by simp only [i_lt, i_le, i_eq, ne_eq, Int32.reduceToInt, b2_0, b2_1, decide_eq_true_eq, decide_eq_false_iff_not, Bool.not_eq_true, Bool.not_eq_false, e2] at * <;> omega)) ?_
          rw [ck, j59]
          refine wq_as 116 d252_115 rfl rfl rfl (vp_in_iff.mpr (by simp only [i_lt, i_le, i_eq, ne_eq, Int32.reduceToInt, b2_0, b2_1, decide_eq_true_eq, decide_eq_false_iff_not, Bool.not_eq_true, Bool.not_eq_false, e3] at * <;> omega)) ?_
          rw [co]
          refine wq_l 117 d252_116 rfl rfl rfl rfl ?_
          refine wq_a 118 d252_117 rfl rfl ?_
          refine wq_gi (ci := 10) (j := 29) 121 d252_118 rfl rfl rfl rfl ?_
          first | rw [show (pm_pi σ 10 27 (nI P.length)).1 10 29 = nI (O'.length + 2) from h29] | rw [f29] | rw [k29] | rw [j29] | simp only [pm_r1r, j29]
          refine wq_k 122 1 d252_121 (by decide) rfl ?_
          refine wq_a 123 d252_122 rfl rfl ?_
          rw [show nI O'.length + 1 = nI (O'.length + 1) from (nI_succ _).symm]
          refine wq_pf (ci := 10) (j := 29) 126 d252_123 rfl rfl rfl ⟨rfl, rfl⟩ rfl ?_
          refine wq_g 0 d252_126 (by decide) ?_
          exact ih _ _ _ (g10 σ2 σ3 F2 F3 h3) (by omega) (by rw [List.length_cons]; omega) (by rw [List.length_cons]; omega) hQ
    · rw [xe_st0 (fun z => q35 z.1)] at hQ
      have ei := nI_toInt (n := i.1) (by omega)
      have htk : ¬ xe_tk (i :: P) = 35 := by
        show ¬ (if i.1 = 99 then (-1 : Int32) else nI i.1) = 35
        by_cases q : i.1 = 99
        · rw [if_pos q]; decide
        · rw [if_neg q]; simp only [i_lt, i_le, i_eq, ne_eq, Int32.reduceToInt, b2_0, b2_1, decide_eq_true_eq, decide_eq_false_iff_not, Bool.not_eq_true, Bool.not_eq_false, ei]; omega
      refine wq_l 1 d252_0 rfl rfl rfl rfl ?_
      refine wq_v 4 [] d252_1 rfl rfl m253 rfl rfl (Nat.le_of_ble_eq_true rfl) rfl (xe253 B (by rw [List.length_cons]; omega) ?_)
      refine wq_k 6 35 d252_4 (by decide) rfl ?_
      refine wq_b 129 9 d252_6 rfl (by decide) rfl (fun c6 => ?_) (fun c6 => absurd (htk) c6)
      refine wq_rv d252_129 ?_
      exact hQ _ _ B
theorem xe252 {d : Nat} {Q : Option Value → pm_S → Prop} {t : Nat → Nat} {M n : Nat} {σ0 : pm_S} {h0 : rp_H} {σ : pm_S} {h : rp_H} {c : pg_C} {s b : Nat} {P : List xm_I} {O : List (List pg_N)} {k : Nat} (hk : k ≤ 7) (hl : pg_live (pt_T t M n) c) (B : xe_B t M n σ0 h0 σ h c s b P O []) (hP : P.length < 390) (hO : O.length < 390) (hko : O.length = xe_k P + 1) (hQ : ∀ σ' h', xe_B t M n σ0 h0 σ' h' c s b (xm_set k P O).1 (xm_set k P O).2 [] → Q none σ') : pm_call pm_Y0 (d + 2) 252 [.ref 10, .int (nI k)] σ Q := by
  refine wq_m m252 (Nat.le_of_ble_eq_true rfl) (by decide) rfl ?_
  exact xel252 hk hl P O σ h B hP hO hko hQ
