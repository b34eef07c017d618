/-! BLANKS of the reference -/
theorem rx_cl {d : Nat} {σ : pm_S} {Q : Option Value → pm_S → Prop} {t : Nat → Nat} {M : Nat} {p : Nat} {x : Int32} (hT : rx_T σ t M) : ∀ (n i : Nat), M - i = n → i ≤ M + 3 → (∀ k, lx_cm t M i = some (k + 2) → k + 1 < M → pm_WP pm_Y0 (pm_call pm_Y0 (d + 1)) 10 prog_14_method_13_code none Q 119 [.ref 10, .int 1, .int x, .int (nI k)] [] (rs σ p)) → (∀ k, lx_cm t M i = none → k ≤ M + 3 → ¬ k + 1 < M → pm_WP pm_Y0 (pm_call pm_Y0 (d + 1)) 10 prog_14_method_13_code none Q 119 [.ref 10, .int 1, .int x, .int (nI k)] [] (rs σ p)) → pm_WP pm_Y0 (pm_call pm_Y0 (d + 1)) 10 prog_14_method_13_code none Q 79 [.ref 10, .int 1, .int x, .int (nI i)] [] (rs σ p) := by
  obtain ⟨hL, hM, hch, ht⟩ := hT
  have hLs : (rs σ p).1 10 1 = nI M := hL
  intro n
  induction n with
  | zero =>
    intro i hn hi h1 h0
    have ei := nI_toInt (n := i + 1) (by omega)
    have eM := nI_toInt (n := M) (by omega)
    have hno : lx_cm t M i = none := by rw [lx_cm_u, if_neg (by omega)]
    refine wq_l 80 d204_79 rfl rfl rfl rfl ?_
    refine wq_k 81 1 d204_80 (by decide) rfl ?_
    refine wq_a 82 d204_81 rfl rfl ?_
    rw [show nI i + 1 = nI (i + 1) from (nI_succ i).symm]
    refine wq_l 83 d204_82 rfl rfl rfl rfl ?_
    refine wq_gi (ci := 10) (j := 1) 86 d204_83 rfl rfl rfl rfl ?_
    rw [hLs]
    refine wq_b 119 89 d204_86 rfl (by decide) rfl (fun c86 => ?_) (fun c86 => absurd ((by simp only [i_lt, i_le, i_eq, ne_eq, Int32.reduceToInt, b2_0, b2_1, decide_eq_true_eq, decide_eq_false_iff_not, Bool.not_eq_true, Bool.not_eq_false] at * <;> omega)) c86)
    exact h0 i hno hi (by omega)
  | succ n ih =>
    intro i hn hi h1 h0
    have ei := nI_toInt (n := i + 1) (by omega)
    have ei0 := nI_toInt (n := i) (by omega)
    have eM := nI_toInt (n := M) (by omega)
    have t0 := ht i
    have t1 := ht (i + 1)
    have et0 := nI_toInt (n := t i) (by omega)
    have et1 := nI_toInt (n := t (i + 1)) (by omega)
    have g0 : (rs σ p).2.2 43 i = nI (t i) := hch i
    have g1 : (rs σ p).2.2 43 (i + 1) = nI (t (i + 1)) := hch (i + 1)
    refine wq_l 80 d204_79 rfl rfl rfl rfl ?_
    refine wq_k 81 1 d204_80 (by decide) rfl ?_
    refine wq_a 82 d204_81 rfl rfl ?_
    rw [show nI i + 1 = nI (i + 1) from (nI_succ i).symm]
    refine wq_l 83 d204_82 rfl rfl rfl rfl ?_
    refine wq_gi (ci := 10) (j := 1) 86 d204_83 rfl rfl rfl rfl ?_
    rw [hLs]
    refine wq_b 119 89 d204_86 rfl (by decide) rfl (fun c86 => ?_) (fun c86 => ?_)
    · -- pc 119
      first
        | (have z1 := c97; have z2 := c110; exact h1 i (by rw [lx_cm_u, if_pos (by simp only [i_lt, i_le, i_eq, ne_eq, Int32.reduceToInt, b2_0, b2_1, decide_eq_true_eq, decide_eq_false_iff_not, Bool.not_eq_true, Bool.not_eq_false] at * <;> omega), if_pos ⟨(by simp only [i_lt, i_le, i_eq, ne_eq, Int32.reduceToInt, b2_0, b2_1, decide_eq_true_eq, decide_eq_false_iff_not, Bool.not_eq_true, Bool.not_eq_false] at * <;> omega), (by simp only [i_lt, i_le, i_eq, ne_eq, Int32.reduceToInt, b2_0, b2_1, decide_eq_true_eq, decide_eq_false_iff_not, Bool.not_eq_true, Bool.not_eq_false] at * <;> omega)⟩]) (by simp only [i_lt, i_le, i_eq, ne_eq, Int32.reduceToInt, b2_0, b2_1, decide_eq_true_eq, decide_eq_false_iff_not, Bool.not_eq_true, Bool.not_eq_false] at * <;> omega))
        | exact h0 i (by rw [lx_cm_u, if_neg (by simp only [i_lt, i_le, i_eq, ne_eq, Int32.reduceToInt, b2_0, b2_1, decide_eq_true_eq, decide_eq_false_iff_not, Bool.not_eq_true, Bool.not_eq_false] at * <;> omega)]) hi (by simp only [i_lt, i_le, i_eq, ne_eq, Int32.reduceToInt, b2_0, b2_1, decide_eq_true_eq, decide_eq_false_iff_not, Bool.not_eq_true, Bool.not_eq_false] at * <;> omega)
    · -- pc 89
      refine wq_l 90 d204_89 rfl rfl rfl rfl ?_
      refine wq_gr (ci := 10) (j := 0) (q := 43) 93 d204_90 rfl rfl rfl rfl ?_
      refine wq_l 94 d204_93 rfl rfl rfl rfl ?_
      refine wq_al 95 d204_94 rfl rfl rfl (vp_in_iff.mpr (by simp only [i_lt, i_le, i_eq, ne_eq, Int32.reduceToInt, b2_0, b2_1, decide_eq_true_eq, decide_eq_false_iff_not, Bool.not_eq_true, Bool.not_eq_false] at * <;> omega)) ?_
      rw [nI_clamp (by omega), g0]
      refine wq_k 97 42 d204_95 (by decide) rfl ?_
      refine wq_b 113 100 d204_97 rfl (by decide) rfl (fun c97 => ?_) (fun c97 => ?_)
      · -- pc 113
        refine wq_i 116 d204_113 rfl rfl rfl ?_
        rw [show nI i + Int32.ofInt 1 = nI (i + 1) from (nI_succ i).symm]
        refine wq_g 79 d204_116 (by decide) ?_
        have hs : lx_cm t M i = lx_cm t M (i + 1) := by
          rw [lx_cm_u, if_pos (by simp only [i_lt, i_le, i_eq, ne_eq, Int32.reduceToInt, b2_0, b2_1, decide_eq_true_eq, decide_eq_false_iff_not, Bool.not_eq_true, Bool.not_eq_false] at * <;> omega), if_neg]
          simp only [i_lt, i_le, i_eq, ne_eq, Int32.reduceToInt, b2_0, b2_1, decide_eq_true_eq, decide_eq_false_iff_not, Bool.not_eq_true, Bool.not_eq_false] at *
          omega
        rw [hs] at h1 h0
        exact ih (i + 1) (by omega) (by omega) h1 h0
      · -- pc 100
        refine wq_l 101 d204_100 rfl rfl rfl rfl ?_
        refine wq_gr (ci := 10) (j := 0) (q := 43) 104 d204_101 rfl rfl rfl rfl ?_
        refine wq_l 105 d204_104 rfl rfl rfl rfl ?_
        refine wq_k 106 1 d204_105 (by decide) rfl ?_
        refine wq_a 107 d204_106 rfl rfl ?_
        rw [show nI i + 1 = nI (i + 1) from (nI_succ i).symm]
        refine wq_al 108 d204_107 rfl rfl rfl (vp_in_iff.mpr (by simp only [i_lt, i_le, i_eq, ne_eq, Int32.reduceToInt, b2_0, b2_1, decide_eq_true_eq, decide_eq_false_iff_not, Bool.not_eq_true, Bool.not_eq_false] at * <;> omega)) ?_
        rw [nI_clamp (by omega), g1]
        refine wq_k 110 41 d204_108 (by decide) rfl ?_
        refine wq_b 119 113 d204_110 rfl (by decide) rfl (fun c110 => ?_) (fun c110 => ?_)
        · -- pc 119
          first
            | (have z1 := c97; have z2 := c110; exact h1 i (by rw [lx_cm_u, if_pos (by simp only [i_lt, i_le, i_eq, ne_eq, Int32.reduceToInt, b2_0, b2_1, decide_eq_true_eq, decide_eq_false_iff_not, Bool.not_eq_true, Bool.not_eq_false] at * <;> omega), if_pos ⟨(by simp only [i_lt, i_le, i_eq, ne_eq, Int32.reduceToInt, b2_0, b2_1, decide_eq_true_eq, decide_eq_false_iff_not, Bool.not_eq_true, Bool.not_eq_false] at * <;> omega), (by simp only [i_lt, i_le, i_eq, ne_eq, Int32.reduceToInt, b2_0, b2_1, decide_eq_true_eq, decide_eq_false_iff_not, Bool.not_eq_true, Bool.not_eq_false] at * <;> omega)⟩]) (by simp only [i_lt, i_le, i_eq, ne_eq, Int32.reduceToInt, b2_0, b2_1, decide_eq_true_eq, decide_eq_false_iff_not, Bool.not_eq_true, Bool.not_eq_false] at * <;> omega))
            | exact h0 i (by rw [lx_cm_u, if_neg (by simp only [i_lt, i_le, i_eq, ne_eq, Int32.reduceToInt, b2_0, b2_1, decide_eq_true_eq, decide_eq_false_iff_not, Bool.not_eq_true, Bool.not_eq_false] at * <;> omega)]) hi (by simp only [i_lt, i_le, i_eq, ne_eq, Int32.reduceToInt, b2_0, b2_1, decide_eq_true_eq, decide_eq_false_iff_not, Bool.not_eq_true, Bool.not_eq_false] at * <;> omega)
        · -- pc 113
          refine wq_i 116 d204_113 rfl rfl rfl ?_
          rw [show nI i + Int32.ofInt 1 = nI (i + 1) from (nI_succ i).symm]
          refine wq_g 79 d204_116 (by decide) ?_
          have hs : lx_cm t M i = lx_cm t M (i + 1) := by
            rw [lx_cm_u, if_pos (by simp only [i_lt, i_le, i_eq, ne_eq, Int32.reduceToInt, b2_0, b2_1, decide_eq_true_eq, decide_eq_false_iff_not, Bool.not_eq_true, Bool.not_eq_false] at * <;> omega), if_neg]
            simp only [i_lt, i_le, i_eq, ne_eq, Int32.reduceToInt, b2_0, b2_1, decide_eq_true_eq, decide_eq_false_iff_not, Bool.not_eq_true, Bool.not_eq_false] at *
            omega
          rw [hs] at h1 h0
          exact ih (i + 1) (by omega) (by omega) h1 h0
theorem rx_bl {d : Nat} {σ : pm_S} {Q : Option Value → pm_S → Prop} {t : Nat → Nat} {M : Nat} (hT : rx_T σ t M) (h6 : σ.1 10 6 = 0) : ∀ (n p : Nat) (x y : Value), M + 1 ≤ p + n → p ≤ M → ((lx_sk t M p).2 = true → Q none (rs σ (lx_sk t M p).1)) → ((lx_sk t M p).2 = false → Q none (pm_pi (pm_pi (rs σ (lx_sk t M p).1) 10 6 2) 10 7 (nI (lx_sk t M p).1))) → pm_WP pm_Y0 (pm_call pm_Y0 (d + 1)) 10 prog_14_method_13_code none Q 2 [.ref 10, .int 1, x, y] [] (rs σ p) := by
  have hT' := hT
  obtain ⟨hL, hM, hch, ht⟩ := hT'
  intro n
  induction n with
  | zero => intro p x y h1 h2; omega
  | succ n ih =>
    intro p x y hn hp hY hN
    have h6s : (rs σ p).1 10 6 = 0 := h6
    have e0 := lx_ci (M := M) ht p
    have e1 := lx_ci (M := M) ht (p + 1)
    have ein : ¬ lx_i t M p = -1 → p < M := fun h => lx_i_in h
    have hbl : (lx_i t M p = 9 ∨ lx_i t M p = 10 ∨ lx_i t M p = 13 ∨ lx_i t M p = 32) → lx_sk t M p = lx_sk t M (p + 1) := fun h => by rw [lx_sk_u, if_pos (by unfold lx_bl; exact decide_eq_true h)]
    have hend : ¬ (lx_i t M p = 9 ∨ lx_i t M p = 10 ∨ lx_i t M p = 13 ∨ lx_i t M p = 32) → ¬ (lx_i t M p = 40 ∧ lx_i t M (p + 1) = 42) → lx_sk t M p = (p, true) := fun h h' => by rw [lx_sk_u, if_neg (by unfold lx_bl; simpa using h), if_neg h']
    have hcm : ¬ (lx_i t M p = 9 ∨ lx_i t M p = 10 ∨ lx_i t M p = 13 ∨ lx_i t M p = 32) → (lx_i t M p = 40 ∧ lx_i t M (p + 1) = 42) → (∀ q, lx_cm t M (p + 2) = some q → lx_sk t M p = lx_sk t M q) ∧ (lx_cm t M (p + 2) = none → lx_sk t M p = (p, false)) := fun h h' => by
      refine ⟨fun q hq => ?_, fun hq => ?_⟩
      · rw [lx_sk_u, if_neg (by unfold lx_bl; simpa using h), if_pos h', hq]
      · rw [lx_sk_u, if_neg (by unfold lx_bl; simpa using h), if_pos h', hq]
    have hret : ∀ (x y : Value) σ', Q none σ' → pm_WP pm_Y0 (pm_call pm_Y0 (d + 1)) 10 prog_14_method_13_code none Q 2 [.ref 10, .int 0, x, y] [] σ' := by
      intro x y σ' hq
      refine wq_l 3 d204_2 rfl rfl rfl rfl ?_
      refine wq_b 156 6 d204_3 rfl (by decide) rfl (fun c3 => ?_) (fun c3 => absurd (rfl) c3)
      refine wq_rv d204_156 ?_
      exact hq
    have hret2 : ∀ (x y : Value) σ', ¬ σ'.1 10 6 = 0 → Q none σ' → pm_WP pm_Y0 (pm_call pm_Y0 (d + 1)) 10 prog_14_method_13_code none Q 2 [.ref 10, .int 1, x, y] [] σ' := by
      intro x y σ' hne hq
      refine wq_l 3 d204_2 rfl rfl rfl rfl ?_
      refine wq_b 156 6 d204_3 rfl (by decide) rfl (fun c3 => absurd c3 (by decide)) (fun c3 => ?_)
      refine wq_l 7 d204_6 rfl rfl rfl rfl ?_
      refine wq_gi (ci := 10) (j := 6) 10 d204_7 rfl rfl rfl rfl ?_
      refine wq_b 156 13 d204_10 rfl (by decide) rfl (fun c10 => ?_) (fun c10 => absurd (hne) c10)
      refine wq_rv d204_156 ?_
      exact hq
    refine wq_l 3 d204_2 rfl rfl rfl rfl ?_
    refine wq_b 156 6 d204_3 rfl (by decide) rfl (fun c3 => absurd c3 (by decide)) (fun c3 => ?_)
    refine wq_l 7 d204_6 rfl rfl rfl rfl ?_
    refine wq_gi (ci := 10) (j := 6) 10 d204_7 rfl rfl rfl rfl ?_
    rw [h6s]
    refine wq_b 156 13 d204_10 rfl (by decide) rfl (fun c10 => absurd c10 (fun z => z rfl)) (fun c10 => ?_)
    refine wq_l 14 d204_13 rfl rfl rfl rfl ?_
    refine wq_k 15 0 d204_14 (by decide) rfl ?_
    refine wq_v 18 [_] d204_15 rfl rfl m205 rfl rfl (Nat.le_of_ble_eq_true rfl) rfl (sp205z hT (by omega) ?_)
    refine wq_s 19 d204_18 rfl rfl (Nat.le_of_ble_eq_true rfl) rfl rfl ?_
    refine wq_l 20 d204_19 rfl rfl rfl rfl ?_
    refine wq_k 22 9 d204_20 (by decide) rfl ?_
    refine wq_b 43 25 d204_22 rfl (by decide) rfl (fun c22 => ?_) (fun c22 => ?_)
    · -- pc 43
      have hb := hbl (by simp only [i_lt, i_le, i_eq, ne_eq, Int32.reduceToInt, b2_0, b2_1, decide_eq_true_eq, decide_eq_false_iff_not, Bool.not_eq_true, Bool.not_eq_false, e0, e1] at * <;> omega)
      have hpM := ein (by simp only [i_lt, i_le, i_eq, ne_eq, Int32.reduceToInt, b2_0, b2_1, decide_eq_true_eq, decide_eq_false_iff_not, Bool.not_eq_true, Bool.not_eq_false, e0, e1] at * <;> omega)
      rw [hb] at hY hN
      refine wq_l 44 d204_43 rfl rfl rfl rfl ?_
      refine wq_a 45 d204_44 rfl rfl ?_
      refine wq_gi (ci := 10) (j := 2) 48 d204_45 rfl rfl rfl rfl ?_
      rw [rs_2]
      refine wq_k 49 1 d204_48 (by decide) rfl ?_
      refine wq_a 50 d204_49 rfl rfl ?_
      refine wq_pf (ci := 10) (j := 2) 53 d204_50 rfl rfl rfl ⟨rfl, rfl⟩ rfl ?_
      rw [show nI p + 1 = nI (p + 1) from (nI_succ p).symm, rs_p]
      refine wq_g 153 d204_53 (by decide) ?_
      refine wq_g 2 d204_153 (by decide) ?_
      first
        | exact ih (p + 1) _ _ (by omega) (by omega) hY hN
        | exact hret _ _ _ (hY rfl)
    · -- pc 25
      refine wq_l 26 d204_25 rfl rfl rfl rfl ?_
      refine wq_k 28 10 d204_26 (by decide) rfl ?_
      refine wq_b 43 31 d204_28 rfl (by decide) rfl (fun c28 => ?_) (fun c28 => ?_)
      · -- pc 43
        have hb := hbl (by simp only [i_lt, i_le, i_eq, ne_eq, Int32.reduceToInt, b2_0, b2_1, decide_eq_true_eq, decide_eq_false_iff_not, Bool.not_eq_true, Bool.not_eq_false, e0, e1] at * <;> omega)
        have hpM := ein (by simp only [i_lt, i_le, i_eq, ne_eq, Int32.reduceToInt, b2_0, b2_1, decide_eq_true_eq, decide_eq_false_iff_not, Bool.not_eq_true, Bool.not_eq_false, e0, e1] at * <;> omega)
        rw [hb] at hY hN
        refine wq_l 44 d204_43 rfl rfl rfl rfl ?_
        refine wq_a 45 d204_44 rfl rfl ?_
        refine wq_gi (ci := 10) (j := 2) 48 d204_45 rfl rfl rfl rfl ?_
        rw [rs_2]
        refine wq_k 49 1 d204_48 (by decide) rfl ?_
        refine wq_a 50 d204_49 rfl rfl ?_
        refine wq_pf (ci := 10) (j := 2) 53 d204_50 rfl rfl rfl ⟨rfl, rfl⟩ rfl ?_
        rw [show nI p + 1 = nI (p + 1) from (nI_succ p).symm, rs_p]
        refine wq_g 153 d204_53 (by decide) ?_
        refine wq_g 2 d204_153 (by decide) ?_
        first
          | exact ih (p + 1) _ _ (by omega) (by omega) hY hN
          | exact hret _ _ _ (hY rfl)
      · -- pc 31
        refine wq_l 32 d204_31 rfl rfl rfl rfl ?_
        refine wq_k 34 13 d204_32 (by decide) rfl ?_
        refine wq_b 43 37 d204_34 rfl (by decide) rfl (fun c34 => ?_) (fun c34 => ?_)
        · -- pc 43
          have hb := hbl (by simp only [i_lt, i_le, i_eq, ne_eq, Int32.reduceToInt, b2_0, b2_1, decide_eq_true_eq, decide_eq_false_iff_not, Bool.not_eq_true, Bool.not_eq_false, e0, e1] at * <;> omega)
          have hpM := ein (by simp only [i_lt, i_le, i_eq, ne_eq, Int32.reduceToInt, b2_0, b2_1, decide_eq_true_eq, decide_eq_false_iff_not, Bool.not_eq_true, Bool.not_eq_false, e0, e1] at * <;> omega)
          rw [hb] at hY hN
          refine wq_l 44 d204_43 rfl rfl rfl rfl ?_
          refine wq_a 45 d204_44 rfl rfl ?_
          refine wq_gi (ci := 10) (j := 2) 48 d204_45 rfl rfl rfl rfl ?_
          rw [rs_2]
          refine wq_k 49 1 d204_48 (by decide) rfl ?_
          refine wq_a 50 d204_49 rfl rfl ?_
          refine wq_pf (ci := 10) (j := 2) 53 d204_50 rfl rfl rfl ⟨rfl, rfl⟩ rfl ?_
          rw [show nI p + 1 = nI (p + 1) from (nI_succ p).symm, rs_p]
          refine wq_g 153 d204_53 (by decide) ?_
          refine wq_g 2 d204_153 (by decide) ?_
          first
            | exact ih (p + 1) _ _ (by omega) (by omega) hY hN
            | exact hret _ _ _ (hY rfl)
        · -- pc 37
          refine wq_l 38 d204_37 rfl rfl rfl rfl ?_
          refine wq_k 40 32 d204_38 (by decide) rfl ?_
          refine wq_b 56 43 d204_40 rfl (by decide) rfl (fun c40 => ?_) (fun c40 => ?_)
          · -- pc 56
            refine wq_l 57 d204_56 rfl rfl rfl rfl ?_
            refine wq_k 59 40 d204_57 (by decide) rfl ?_
            refine wq_b 151 62 d204_59 rfl (by decide) rfl (fun c59 => ?_) (fun c59 => ?_)
            · -- pc 151
              have he := hend (by simp only [i_lt, i_le, i_eq, ne_eq, Int32.reduceToInt, b2_0, b2_1, decide_eq_true_eq, decide_eq_false_iff_not, Bool.not_eq_true, Bool.not_eq_false, e0, e1] at * <;> omega) (by simp only [i_lt, i_le, i_eq, ne_eq, Int32.reduceToInt, b2_0, b2_1, decide_eq_true_eq, decide_eq_false_iff_not, Bool.not_eq_true, Bool.not_eq_false, e0, e1] at * <;> omega)
              rw [he] at hY
              refine wq_k 152 0 d204_151 (by decide) rfl ?_
              refine wq_s 153 d204_152 rfl rfl (Nat.le_of_ble_eq_true rfl) rfl rfl ?_
              refine wq_g 2 d204_153 (by decide) ?_
              first
                | exact ih (p + 1) _ _ (by omega) (by omega) hY hN
                | exact hret _ _ _ (hY rfl)
            · -- pc 62
              refine wq_l 63 d204_62 rfl rfl rfl rfl ?_
              refine wq_k 64 1 d204_63 (by decide) rfl ?_
              refine wq_v 67 [_] d204_64 rfl rfl m205 rfl rfl (Nat.le_of_ble_eq_true rfl) rfl (sp205 (k := 1) hT (by omega) ?_)
              refine wq_k 69 42 d204_67 (by decide) rfl ?_
              refine wq_b 151 72 d204_69 rfl (by decide) rfl (fun c69 => ?_) (fun c69 => ?_)
              · -- pc 151
                have he := hend (by simp only [i_lt, i_le, i_eq, ne_eq, Int32.reduceToInt, b2_0, b2_1, decide_eq_true_eq, decide_eq_false_iff_not, Bool.not_eq_true, Bool.not_eq_false, e0, e1] at * <;> omega) (by simp only [i_lt, i_le, i_eq, ne_eq, Int32.reduceToInt, b2_0, b2_1, decide_eq_true_eq, decide_eq_false_iff_not, Bool.not_eq_true, Bool.not_eq_false, e0, e1] at * <;> omega)
                rw [he] at hY
                refine wq_k 152 0 d204_151 (by decide) rfl ?_
                refine wq_s 153 d204_152 rfl rfl (Nat.le_of_ble_eq_true rfl) rfl rfl ?_
                refine wq_g 2 d204_153 (by decide) ?_
                first
                  | exact ih (p + 1) _ _ (by omega) (by omega) hY hN
                  | exact hret _ _ _ (hY rfl)
              · -- pc 72
                have hc := hcm (by simp only [i_lt, i_le, i_eq, ne_eq, Int32.reduceToInt, b2_0, b2_1, decide_eq_true_eq, decide_eq_false_iff_not, Bool.not_eq_true, Bool.not_eq_false, e0, e1] at * <;> omega) (by simp only [i_lt, i_le, i_eq, ne_eq, Int32.reduceToInt, b2_0, b2_1, decide_eq_true_eq, decide_eq_false_iff_not, Bool.not_eq_true, Bool.not_eq_false, e0, e1] at * <;> omega)
                have hpM : p + 1 < M := lx_i_in (t := t) (M := M) (p := p + 1) (by simp only [i_lt, i_le, i_eq, ne_eq, Int32.reduceToInt, b2_0, b2_1, decide_eq_true_eq, decide_eq_false_iff_not, Bool.not_eq_true, Bool.not_eq_false, e0, e1] at * <;> omega)
                refine wq_l 73 d204_72 rfl rfl rfl rfl ?_
                refine wq_gi (ci := 10) (j := 2) 76 d204_73 rfl rfl rfl rfl ?_
                rw [rs_2]
                refine wq_k 77 2 d204_76 (by decide) rfl ?_
                refine wq_a 78 d204_77 rfl rfl ?_
                rw [show nI p + 2 = nI (p + 2) from nI_add p 2]
                refine wq_s 79 d204_78 rfl rfl (Nat.le_of_ble_eq_true rfl) rfl rfl ?_
                have hLs : (rs σ p).1 10 1 = nI M := hL
                have eM := nI_toInt (n := M) (by omega)
                refine rx_cl hT _ _ rfl (by omega) (fun k hk hkM => ?_) (fun k hk hk3 hkM => ?_)
                · have ek := nI_toInt (n := k + 1) (by omega)
                  rw [hc.1 _ hk] at hY hN
                  have kb := lx_cm_b hk
                  refine wq_l 120 d204_119 rfl rfl rfl rfl ?_
                  refine wq_k 121 1 d204_120 (by decide) rfl ?_
                  refine wq_a 122 d204_121 rfl rfl ?_
                  rw [show nI k + 1 = nI (k + 1) from (nI_succ k).symm]
                  refine wq_l 123 d204_122 rfl rfl rfl rfl ?_
                  refine wq_gi (ci := 10) (j := 1) 126 d204_123 rfl rfl rfl rfl ?_
                  rw [hLs]
                  refine wq_b 139 129 d204_126 rfl (by decide) rfl (fun c126 => absurd c126 ((by simp only [i_lt, i_le, i_eq, ne_eq, Int32.reduceToInt, b2_0, b2_1, decide_eq_true_eq, decide_eq_false_iff_not, Bool.not_eq_true, Bool.not_eq_false, ek] at * <;> omega))) (fun c126 => ?_)
                  refine wq_l 130 d204_129 rfl rfl rfl rfl ?_
                  refine wq_l 131 d204_130 rfl rfl rfl rfl ?_
                  refine wq_k 132 2 d204_131 (by decide) rfl ?_
                  refine wq_a 133 d204_132 rfl rfl ?_
                  rw [show nI k + 2 = nI (k + 2) from nI_add k 2]
                  refine wq_pf (ci := 10) (j := 2) 136 d204_133 rfl rfl rfl ⟨rfl, rfl⟩ rfl ?_
                  rw [rs_p]
                  refine wq_g 148 d204_136 (by decide) ?_
                  refine wq_g 153 d204_148 (by decide) ?_
                  refine wq_g 2 d204_153 (by decide) ?_
                  exact ih (k + 2) _ _ (by omega) (by omega) hY hN
                · have ek := nI_toInt (n := k + 1) (by omega)
                  rw [hc.2 hk] at hN
                  refine wq_l 120 d204_119 rfl rfl rfl rfl ?_
                  refine wq_k 121 1 d204_120 (by decide) rfl ?_
                  refine wq_a 122 d204_121 rfl rfl ?_
                  rw [show nI k + 1 = nI (k + 1) from (nI_succ k).symm]
                  refine wq_l 123 d204_122 rfl rfl rfl rfl ?_
                  refine wq_gi (ci := 10) (j := 1) 126 d204_123 rfl rfl rfl rfl ?_
                  rw [hLs]
                  refine wq_b 139 129 d204_126 rfl (by decide) rfl (fun c126 => ?_) (fun c126 => absurd ((by simp only [i_lt, i_le, i_eq, ne_eq, Int32.reduceToInt, b2_0, b2_1, decide_eq_true_eq, decide_eq_false_iff_not, Bool.not_eq_true, Bool.not_eq_false, ek] at * <;> omega)) c126)
                  refine wq_l 140 d204_139 rfl rfl rfl rfl ?_
                  refine wq_k 141 2 d204_140 (by decide) rfl ?_
                  refine wq_l 142 d204_141 rfl rfl rfl rfl ?_
                  refine wq_gi (ci := 10) (j := 2) 145 d204_142 rfl rfl rfl rfl ?_
                  rw [rs_2]
                  refine wq_v 148 [_, _] d204_145 rfl rfl m206 rfl rfl (Nat.le_of_ble_eq_true rfl) rfl (sp206 h6s ?_)
                  refine wq_g 153 d204_148 (by decide) ?_
                  refine wq_g 2 d204_153 (by decide) ?_
                  exact hret2 _ _ _ (by show ¬ (2 : Int32) = 0; decide) (hN rfl)
          · -- pc 43
            have hb := hbl (by simp only [i_lt, i_le, i_eq, ne_eq, Int32.reduceToInt, b2_0, b2_1, decide_eq_true_eq, decide_eq_false_iff_not, Bool.not_eq_true, Bool.not_eq_false, e0, e1] at * <;> omega)
            have hpM := ein (by simp only [i_lt, i_le, i_eq, ne_eq, Int32.reduceToInt, b2_0, b2_1, decide_eq_true_eq, decide_eq_false_iff_not, Bool.not_eq_true, Bool.not_eq_false, e0, e1] at * <;> omega)
            rw [hb] at hY hN
            refine wq_l 44 d204_43 rfl rfl rfl rfl ?_
            refine wq_a 45 d204_44 rfl rfl ?_
            refine wq_gi (ci := 10) (j := 2) 48 d204_45 rfl rfl rfl rfl ?_
            rw [rs_2]
            refine wq_k 49 1 d204_48 (by decide) rfl ?_
            refine wq_a 50 d204_49 rfl rfl ?_
            refine wq_pf (ci := 10) (j := 2) 53 d204_50 rfl rfl rfl ⟨rfl, rfl⟩ rfl ?_
            rw [show nI p + 1 = nI (p + 1) from (nI_succ p).symm, rs_p]
            refine wq_g 153 d204_53 (by decide) ?_
            refine wq_g 2 d204_153 (by decide) ?_
            first
              | exact ih (p + 1) _ _ (by omega) (by omega) hY hN
              | exact hret _ _ _ (hY rfl)
theorem sp204 {d : Nat} {σ : pm_S} {Q : Option Value → pm_S → Prop} {t : Nat → Nat} {M : Nat} {p : Nat} (hT : rx_T σ t M) (h6 : σ.1 10 6 = 0) (hp : p ≤ M) (hY : (lx_sk t M p).2 = true → Q none (rs σ (lx_sk t M p).1)) (hN : (lx_sk t M p).2 = false → Q none (pm_pi (pm_pi (rs σ (lx_sk t M p).1) 10 6 2) 10 7 (nI (lx_sk t M p).1))) : pm_call pm_Y0 (d + 2) 204 [.ref 10] (rs σ p) Q := by
  refine wq_m m204 (Nat.le_of_ble_eq_true rfl) (by decide) rfl ?_
  refine wq_k 1 1 d204_0 (by decide) rfl ?_
  refine wq_s 2 d204_1 rfl rfl (Nat.le_of_ble_eq_true rfl) rfl rfl ?_
  exact rx_bl hT h6 (M + 1) p _ _ (by omega) hp hY hN
