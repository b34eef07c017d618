theorem d28_0 : decode prog_9_method_20_code 0 = .ok (.aload_n 0, 1) := by decide +kernel
theorem d28_1 : decode prog_9_method_20_code 1 = .ok (.getfield 36, 3) := by decide +kernel
theorem d28_4 : decode prog_9_method_20_code 4 = .ok (.iconst 2, 1) := by decide +kernel
theorem d28_5 : decode prog_9_method_20_code 5 = .ok (.iadd, 1) := by decide +kernel
theorem d28_6 : decode prog_9_method_20_code 6 = .ok (.istore_n 1, 1) := by decide +kernel
theorem d28_7 : decode prog_9_method_20_code 7 = .ok (.iload_n 1, 1) := by decide +kernel
theorem d28_8 : decode prog_9_method_20_code 8 = .ok (.iconst 1, 1) := by decide +kernel
theorem d28_9 : decode prog_9_method_20_code 9 = .ok (.iadd, 1) := by decide +kernel
theorem d28_10 : decode prog_9_method_20_code 10 = .ok (.aload_n 0, 1) := by decide +kernel
theorem d28_11 : decode prog_9_method_20_code 11 = .ok (.getfield 33, 3) := by decide +kernel
theorem d28_14 : decode prog_9_method_20_code 14 = .ok (.if_icmp .ge 42, 3) := by decide +kernel
theorem d28_17 : decode prog_9_method_20_code 17 = .ok (.aload_n 0, 1) := by decide +kernel
theorem d28_18 : decode prog_9_method_20_code 18 = .ok (.getfield 9, 3) := by decide +kernel
theorem d28_21 : decode prog_9_method_20_code 21 = .ok (.iload_n 1, 1) := by decide +kernel
theorem d28_22 : decode prog_9_method_20_code 22 = .ok (.caload, 1) := by decide +kernel
theorem d28_23 : decode prog_9_method_20_code 23 = .ok (.bipush 42, 2) := by decide +kernel
theorem d28_25 : decode prog_9_method_20_code 25 = .ok (.if_icmp .ne 25, 3) := by decide +kernel
theorem d28_28 : decode prog_9_method_20_code 28 = .ok (.aload_n 0, 1) := by decide +kernel
theorem d28_29 : decode prog_9_method_20_code 29 = .ok (.getfield 9, 3) := by decide +kernel
theorem d28_32 : decode prog_9_method_20_code 32 = .ok (.iload_n 1, 1) := by decide +kernel
theorem d28_33 : decode prog_9_method_20_code 33 = .ok (.iconst 1, 1) := by decide +kernel
theorem d28_34 : decode prog_9_method_20_code 34 = .ok (.iadd, 1) := by decide +kernel
theorem d28_35 : decode prog_9_method_20_code 35 = .ok (.caload, 1) := by decide +kernel
theorem d28_36 : decode prog_9_method_20_code 36 = .ok (.bipush 41, 2) := by decide +kernel
theorem d28_38 : decode prog_9_method_20_code 38 = .ok (.if_icmp .ne 12, 3) := by decide +kernel
theorem d28_41 : decode prog_9_method_20_code 41 = .ok (.aload_n 0, 1) := by decide +kernel
theorem d28_42 : decode prog_9_method_20_code 42 = .ok (.iload_n 1, 1) := by decide +kernel
theorem d28_43 : decode prog_9_method_20_code 43 = .ok (.iconst 2, 1) := by decide +kernel
theorem d28_44 : decode prog_9_method_20_code 44 = .ok (.iadd, 1) := by decide +kernel
theorem d28_45 : decode prog_9_method_20_code 45 = .ok (.putfield 36, 3) := by decide +kernel
theorem d28_48 : decode prog_9_method_20_code 48 = .ok (.iconst 1, 1) := by decide +kernel
theorem d28_49 : decode prog_9_method_20_code 49 = .ok (.ireturn, 1) := by decide +kernel
theorem d28_50 : decode prog_9_method_20_code 50 = .ok (.iinc 1 1, 3) := by decide +kernel
theorem d28_53 : decode prog_9_method_20_code 53 = .ok (.goto (-46), 3) := by decide +kernel
theorem d28_56 : decode prog_9_method_20_code 56 = .ok (.iconst 0, 1) := by decide +kernel
theorem d28_57 : decode prog_9_method_20_code 57 = .ok (.ireturn, 1) := by decide +kernel
theorem m28 : pm_m 28 = some (⟨"TypeRules$Tokens", "skipComment", "()Z"⟩, prog_9_method_20_code, 2, (some FieldType.boolean), 2, 0, 3) := rfl
/-! COMMENTS, BLANKS -/
theorem nI_m1 (n : Nat) : nI (n + 1) + Int32.ofInt (-1) = nI n := by rw [show Int32.ofInt (-1) = -1 from rfl, ← Int32.sub_eq_add_neg, nI_pred]
theorem lx_cl {d : Nat} {σ : pm_S} {Q : Option Value → pm_S → Prop} {t : Nat → Nat} {M : Nat} {p : Nat} {a : Int64} (hT : lx_T σ t M) : ∀ (n i : Nat), M - i = n → i ≤ M + 3 → (∀ q, lx_cm t M i = some q → Q (some (.int 1)) (ls σ q a)) → (lx_cm t M i = none → Q (some (.int 0)) (ls σ p a)) → pm_WP pm_Y0 (pm_call pm_Y0 (d)) 2 prog_9_method_20_code (some FieldType.boolean) Q 7 [.ref 2, .int (nI i)] [] (ls σ p a) := by
  obtain ⟨hL, hM, hch, ht⟩ := hT
  have hLs : (ls σ p a).1 2 6 = nI M := hL
  intro n
  induction n with
  | zero =>
    intro i hn hi h1 h0
    have ei := nI_toInt (n := i + 1) (by omega)
    have eM := nI_toInt (n := M) (by omega)
    have hno : lx_cm t M i = none := by rw [lx_cm_u, if_neg (by omega)]
    refine wq_l 8 d28_7 rfl rfl rfl rfl ?_
    refine wq_k 9 1 d28_8 (by decide) rfl ?_
    refine wq_a 10 d28_9 rfl rfl ?_
    rw [show nI i + 1 = nI (i + 1) from (nI_succ i).symm]
    refine wq_l 11 d28_10 rfl rfl rfl rfl ?_
    refine wq_gi (ci := 2) (j := 6) 14 d28_11 rfl rfl rfl rfl ?_
    rw [hLs]
    refine wq_b 56 17 d28_14 rfl (by decide) rfl (fun c14 => ?_) (fun c14 => absurd ((by simp only [i_lt, i_le, i_eq, ne_eq, Int32.reduceToInt, b2_0, b2_1, decide_eq_true_eq, decide_eq_false_iff_not, Bool.not_eq_true, Bool.not_eq_false] at * <;> omega)) c14)
    refine wq_k 57 0 d28_56 (by decide) rfl ?_
    refine wq_ri d28_57 (rfl) ?_
    exact h0 hno
  | succ n ih =>
    intro i hn hi h1 h0
    have ei := nI_toInt (n := i + 1) (by omega)
    have ei0 := nI_toInt (n := i) (by omega)
    have eM := nI_toInt (n := M) (by omega)
    have t0 := ht i
    have t1 := ht (i + 1)
    have et0 := nI_toInt (n := t i) (by omega)
    have et1 := nI_toInt (n := t (i + 1)) (by omega)
    have g0 : (ls σ p a).2.2 11 i = nI (t i) := hch i
    have g1 : (ls σ p a).2.2 11 (i + 1) = nI (t (i + 1)) := hch (i + 1)
    refine wq_l 8 d28_7 rfl rfl rfl rfl ?_
    refine wq_k 9 1 d28_8 (by decide) rfl ?_
    refine wq_a 10 d28_9 rfl rfl ?_
    rw [show nI i + 1 = nI (i + 1) from (nI_succ i).symm]
    refine wq_l 11 d28_10 rfl rfl rfl rfl ?_
    refine wq_gi (ci := 2) (j := 6) 14 d28_11 rfl rfl rfl rfl ?_
    rw [hLs]
    refine wq_b 56 17 d28_14 rfl (by decide) rfl (fun c14 => ?_) (fun c14 => ?_)
    · -- pc 56
      refine wq_k 57 0 d28_56 (by decide) rfl ?_
      refine wq_ri d28_57 (rfl) ?_
      exact h0 (by rw [lx_cm_u, if_neg (by simp only [i_lt, i_le, i_eq, ne_eq, Int32.reduceToInt, b2_0, b2_1, decide_eq_true_eq, decide_eq_false_iff_not, Bool.not_eq_true, Bool.not_eq_false] at * <;> omega)])
    · -- pc 17
      refine wq_l 18 d28_17 rfl rfl rfl rfl ?_
      refine wq_gr (ci := 2) (j := 0) (q := 11) 21 d28_18 rfl rfl rfl rfl ?_
      refine wq_l 22 d28_21 rfl rfl rfl rfl ?_
      refine wq_al 23 d28_22 rfl rfl rfl (vp_in_iff.mpr (by simp only [i_lt, i_le, i_eq, ne_eq, Int32.reduceToInt, b2_0, b2_1, decide_eq_true_eq, decide_eq_false_iff_not, Bool.not_eq_true, Bool.not_eq_false] at * <;> omega)) ?_
      rw [nI_clamp (by omega), g0]
      refine wq_k 25 42 d28_23 (by decide) rfl ?_
      refine wq_b 50 28 d28_25 rfl (by decide) rfl (fun c25 => ?_) (fun c25 => ?_)
      · -- pc 50
        refine wq_i 53 d28_50 rfl rfl rfl ?_
        rw [show nI i + Int32.ofInt 1 = nI (i + 1) from (nI_succ i).symm]
        refine wq_g 7 d28_53 (by decide) ?_
        have hs : lx_cm t M i = lx_cm t M (i + 1) := by
          rw [lx_cm_u, if_pos (by simp only [i_lt, i_le, i_eq, ne_eq, Int32.reduceToInt, b2_0, b2_1, decide_eq_true_eq, decide_eq_false_iff_not, Bool.not_eq_true, Bool.not_eq_false] at * <;> omega), if_neg]
          simp only [i_lt, i_le, i_eq, ne_eq, Int32.reduceToInt, b2_0, b2_1, decide_eq_true_eq, decide_eq_false_iff_not, Bool.not_eq_true, Bool.not_eq_false] at *
          omega
        rw [hs] at h1 h0
        exact ih (i + 1) (by omega) (by omega) h1 h0
      · -- pc 28
        refine wq_l 29 d28_28 rfl rfl rfl rfl ?_
        refine wq_gr (ci := 2) (j := 0) (q := 11) 32 d28_29 rfl rfl rfl rfl ?_
        refine wq_l 33 d28_32 rfl rfl rfl rfl ?_
        refine wq_k 34 1 d28_33 (by decide) rfl ?_
        refine wq_a 35 d28_34 rfl rfl ?_
        rw [show nI i + 1 = nI (i + 1) from (nI_succ i).symm]
        refine wq_al 36 d28_35 rfl rfl rfl (vp_in_iff.mpr (by simp only [i_lt, i_le, i_eq, ne_eq, Int32.reduceToInt, b2_0, b2_1, decide_eq_true_eq, decide_eq_false_iff_not, Bool.not_eq_true, Bool.not_eq_false] at * <;> omega)) ?_
        rw [nI_clamp (by omega), g1]
        refine wq_k 38 41 d28_36 (by decide) rfl ?_
        refine wq_b 50 41 d28_38 rfl (by decide) rfl (fun c38 => ?_) (fun c38 => ?_)
        · -- pc 50
          refine wq_i 53 d28_50 rfl rfl rfl ?_
          rw [show nI i + Int32.ofInt 1 = nI (i + 1) from (nI_succ i).symm]
          refine wq_g 7 d28_53 (by decide) ?_
          have hs : lx_cm t M i = lx_cm t M (i + 1) := by
            rw [lx_cm_u, if_pos (by simp only [i_lt, i_le, i_eq, ne_eq, Int32.reduceToInt, b2_0, b2_1, decide_eq_true_eq, decide_eq_false_iff_not, Bool.not_eq_true, Bool.not_eq_false] at * <;> omega), if_neg]
            simp only [i_lt, i_le, i_eq, ne_eq, Int32.reduceToInt, b2_0, b2_1, decide_eq_true_eq, decide_eq_false_iff_not, Bool.not_eq_true, Bool.not_eq_false] at *
            omega
          rw [hs] at h1 h0
          exact ih (i + 1) (by omega) (by omega) h1 h0
        · -- pc 41
          refine wq_l 42 d28_41 rfl rfl rfl rfl ?_
          refine wq_l 43 d28_42 rfl rfl rfl rfl ?_
          refine wq_k 44 2 d28_43 (by decide) rfl ?_
          refine wq_a 45 d28_44 rfl rfl ?_
          rw [show nI i + 2 = nI (i + 2) from nI_add i 2]
          refine wq_pf (ci := 2) (j := 7) 48 d28_45 rfl rfl rfl ⟨rfl, rfl⟩ rfl ?_
          rw [ls_p7]
          refine wq_k 49 1 d28_48 (by decide) rfl ?_
          refine wq_ri d28_49 (rfl) ?_
          exact h1 _ (by rw [lx_cm_u, if_pos (by simp only [i_lt, i_le, i_eq, ne_eq, Int32.reduceToInt, b2_0, b2_1, decide_eq_true_eq, decide_eq_false_iff_not, Bool.not_eq_true, Bool.not_eq_false] at * <;> omega), if_pos ⟨(by simp only [i_lt, i_le, i_eq, ne_eq, Int32.reduceToInt, b2_0, b2_1, decide_eq_true_eq, decide_eq_false_iff_not, Bool.not_eq_true, Bool.not_eq_false] at * <;> omega), (by simp only [i_lt, i_le, i_eq, ne_eq, Int32.reduceToInt, b2_0, b2_1, decide_eq_true_eq, decide_eq_false_iff_not, Bool.not_eq_true, Bool.not_eq_false] at * <;> omega)⟩])
theorem sp28 {d : Nat} {σ : pm_S} {Q : Option Value → pm_S → Prop} {t : Nat → Nat} {M : Nat} {p : Nat} {a : Int64} (hT : lx_T σ t M) (hp : p + 1 < M) (h1 : ∀ q, lx_cm t M (p + 2) = some q → Q (some (.int 1)) (ls σ q a)) (h0 : lx_cm t M (p + 2) = none → Q (some (.int 0)) (ls σ p a)) : pm_call pm_Y0 (d + 1) 28 [.ref 2] (ls σ p a) Q := by
  refine wq_m m28 (Nat.le_of_ble_eq_true rfl) (by decide) rfl ?_
  refine wq_l 1 d28_0 rfl rfl rfl rfl ?_
  refine wq_gi (ci := 2) (j := 7) 4 d28_1 rfl rfl rfl rfl ?_
  rw [ls_7]
  refine wq_k 5 2 d28_4 (by decide) rfl ?_
  refine wq_a 6 d28_5 rfl rfl ?_
  rw [show nI p + 2 = nI (p + 2) from nI_add p 2]
  refine wq_s 7 d28_6 rfl rfl (Nat.le_of_ble_eq_true rfl) rfl rfl ?_
  exact lx_cl hT _ _ rfl (by omega) h1 h0
theorem d26_0 : decode prog_9_method_19_code 0 = .ok (.aload_n 0, 1) := by decide +kernel
theorem d26_1 : decode prog_9_method_19_code 1 = .ok (.getfield 33, 3) := by decide +kernel
theorem d26_4 : decode prog_9_method_19_code 4 = .ok (.iconst 1, 1) := by decide +kernel
theorem d26_5 : decode prog_9_method_19_code 5 = .ok (.iadd, 1) := by decide +kernel
theorem d26_6 : decode prog_9_method_19_code 6 = .ok (.istore_n 1, 1) := by decide +kernel
theorem d26_7 : decode prog_9_method_19_code 7 = .ok (.iload_n 1, 1) := by decide +kernel
theorem d26_8 : decode prog_9_method_19_code 8 = .ok (.ifCond .le 87, 3) := by decide +kernel
theorem d26_11 : decode prog_9_method_19_code 11 = .ok (.aload_n 0, 1) := by decide +kernel
theorem d26_12 : decode prog_9_method_19_code 12 = .ok (.aload_n 0, 1) := by decide +kernel
theorem d26_13 : decode prog_9_method_19_code 13 = .ok (.getfield 36, 3) := by decide +kernel
theorem d26_16 : decode prog_9_method_19_code 16 = .ok (.invokevirtual 73, 3) := by decide +kernel
theorem d26_19 : decode prog_9_method_19_code 19 = .ok (.istore_n 2, 1) := by decide +kernel
theorem d26_20 : decode prog_9_method_19_code 20 = .ok (.iload_n 2, 1) := by decide +kernel
theorem d26_21 : decode prog_9_method_19_code 21 = .ok (.bipush 9, 2) := by decide +kernel
theorem d26_23 : decode prog_9_method_19_code 23 = .ok (.if_icmp .eq 21, 3) := by decide +kernel
theorem d26_26 : decode prog_9_method_19_code 26 = .ok (.iload_n 2, 1) := by decide +kernel
theorem d26_27 : decode prog_9_method_19_code 27 = .ok (.bipush 10, 2) := by decide +kernel
theorem d26_29 : decode prog_9_method_19_code 29 = .ok (.if_icmp .eq 15, 3) := by decide +kernel
theorem d26_32 : decode prog_9_method_19_code 32 = .ok (.iload_n 2, 1) := by decide +kernel
theorem d26_33 : decode prog_9_method_19_code 33 = .ok (.bipush 13, 2) := by decide +kernel
theorem d26_35 : decode prog_9_method_19_code 35 = .ok (.if_icmp .eq 9, 3) := by decide +kernel
theorem d26_38 : decode prog_9_method_19_code 38 = .ok (.iload_n 2, 1) := by decide +kernel
theorem d26_39 : decode prog_9_method_19_code 39 = .ok (.bipush 32, 2) := by decide +kernel
theorem d26_41 : decode prog_9_method_19_code 41 = .ok (.if_icmp .ne 16, 3) := by decide +kernel
theorem d26_44 : decode prog_9_method_19_code 44 = .ok (.aload_n 0, 1) := by decide +kernel
theorem d26_45 : decode prog_9_method_19_code 45 = .ok (.dup, 1) := by decide +kernel
theorem d26_46 : decode prog_9_method_19_code 46 = .ok (.getfield 36, 3) := by decide +kernel
theorem d26_49 : decode prog_9_method_19_code 49 = .ok (.iconst 1, 1) := by decide +kernel
theorem d26_50 : decode prog_9_method_19_code 50 = .ok (.iadd, 1) := by decide +kernel
theorem d26_51 : decode prog_9_method_19_code 51 = .ok (.putfield 36, 3) := by decide +kernel
theorem d26_54 : decode prog_9_method_19_code 54 = .ok (.goto 35, 3) := by decide +kernel
theorem d26_57 : decode prog_9_method_19_code 57 = .ok (.iload_n 2, 1) := by decide +kernel
theorem d26_58 : decode prog_9_method_19_code 58 = .ok (.bipush 40, 2) := by decide +kernel
theorem d26_60 : decode prog_9_method_19_code 60 = .ok (.if_icmp .ne 18, 3) := by decide +kernel
theorem d26_63 : decode prog_9_method_19_code 63 = .ok (.aload_n 0, 1) := by decide +kernel
theorem d26_64 : decode prog_9_method_19_code 64 = .ok (.aload_n 0, 1) := by decide +kernel
theorem d26_65 : decode prog_9_method_19_code 65 = .ok (.getfield 36, 3) := by decide +kernel
theorem d26_68 : decode prog_9_method_19_code 68 = .ok (.iconst 1, 1) := by decide +kernel
theorem d26_69 : decode prog_9_method_19_code 69 = .ok (.iadd, 1) := by decide +kernel
theorem d26_70 : decode prog_9_method_19_code 70 = .ok (.invokevirtual 73, 3) := by decide +kernel
theorem d26_73 : decode prog_9_method_19_code 73 = .ok (.bipush 42, 2) := by decide +kernel
theorem d26_75 : decode prog_9_method_19_code 75 = .ok (.if_icmp .eq 5, 3) := by decide +kernel
theorem d26_78 : decode prog_9_method_19_code 78 = .ok (.iconst 1, 1) := by decide +kernel
theorem d26_79 : decode prog_9_method_19_code 79 = .ok (.ireturn, 1) := by decide +kernel
theorem d26_80 : decode prog_9_method_19_code 80 = .ok (.aload_n 0, 1) := by decide +kernel
theorem d26_81 : decode prog_9_method_19_code 81 = .ok (.invokevirtual 103, 3) := by decide +kernel
theorem d26_84 : decode prog_9_method_19_code 84 = .ok (.ifCond .ne 5, 3) := by decide +kernel
theorem d26_87 : decode prog_9_method_19_code 87 = .ok (.iconst 0, 1) := by decide +kernel
theorem d26_88 : decode prog_9_method_19_code 88 = .ok (.ireturn, 1) := by decide +kernel
theorem d26_89 : decode prog_9_method_19_code 89 = .ok (.iinc 1 (-1), 3) := by decide +kernel
theorem d26_92 : decode prog_9_method_19_code 92 = .ok (.goto (-85), 3) := by decide +kernel
theorem d26_95 : decode prog_9_method_19_code 95 = .ok (.iconst 1, 1) := by decide +kernel
theorem d26_96 : decode prog_9_method_19_code 96 = .ok (.ireturn, 1) := by decide +kernel
theorem m26 : pm_m 26 = some (⟨"TypeRules$Tokens", "skipBlanks", "()Z"⟩, prog_9_method_19_code, 3, (some FieldType.boolean), 2, 0, 3) := rfl
theorem lx_bl0 {d : Nat} {σ : pm_S} {Q : Option Value → pm_S → Prop} {t : Nat → Nat} {M : Nat} {a : Int64} (hT : lx_T σ t M) : ∀ (n p : Nat) (x : Value), M + 1 ≤ p + n → n ≤ 8193 → p ≤ M → Q (some (.int (b2 (lx_sk t M p).2))) (ls σ (lx_sk t M p).1 a) → pm_WP pm_Y0 (pm_call pm_Y0 (d + 1)) 2 prog_9_method_19_code (some FieldType.boolean) Q 7 [.ref 2, .int (nI n), x] [] (ls σ p a) := by
  have hT' := hT
  obtain ⟨hL, hM, hch, ht⟩ := hT'
  intro n
  induction n with
  | zero => intro p x h1 _ h2; omega
  | succ n ih =>
    intro p x hn hn' hp hQ
    have en := nI_toInt (n := n + 1) (by omega)
    have e0 := lx_ci (M := M) ht p
    have e1 := lx_ci (M := M) ht (p + 1)
    have ein : ¬ lx_i t M p = -1 → p < M := fun h => lx_i_in h
    have hbl : (lx_i t M p = 9 ∨ lx_i t M p = 10 ∨ lx_i t M p = 13 ∨ lx_i t M p = 32) → Q (some (.int (b2 (lx_sk t M (p + 1)).2))) (ls σ (lx_sk t M (p + 1)).1 a) := fun h => by rw [show lx_sk t M p = lx_sk t M (p + 1) from by rw [lx_sk_u, if_pos (by unfold lx_bl; exact decide_eq_true h)]] at hQ; exact hQ
    have hend : ¬ (lx_i t M p = 9 ∨ lx_i t M p = 10 ∨ lx_i t M p = 13 ∨ lx_i t M p = 32) → ¬ (lx_i t M p = 40 ∧ lx_i t M (p + 1) = 42) → Q (some (.int 1)) (ls σ p a) := fun h h' => by rw [show lx_sk t M p = (p, true) from by rw [lx_sk_u, if_neg (by unfold lx_bl; simpa using h), if_neg h']] at hQ; exact hQ
    have hcm : ¬ (lx_i t M p = 9 ∨ lx_i t M p = 10 ∨ lx_i t M p = 13 ∨ lx_i t M p = 32) → (lx_i t M p = 40 ∧ lx_i t M (p + 1) = 42) → (∀ q, lx_cm t M (p + 2) = some q → Q (some (.int (b2 (lx_sk t M q).2))) (ls σ (lx_sk t M q).1 a)) ∧ (lx_cm t M (p + 2) = none → Q (some (.int 0)) (ls σ p a)) := fun h h' => by
      refine ⟨fun q hq => ?_, fun hq => ?_⟩
      · rw [show lx_sk t M p = lx_sk t M q from by rw [lx_sk_u, if_neg (by unfold lx_bl; simpa using h), if_pos h', hq]] at hQ; exact hQ
      · rw [show lx_sk t M p = (p, false) from by rw [lx_sk_u, if_neg (by unfold lx_bl; simpa using h), if_pos h', hq]] at hQ; exact hQ
    clear hQ
    refine wq_l 8 d26_7 rfl rfl rfl rfl ?_
    refine wq_b 95 11 d26_8 rfl (by decide) rfl (fun c8 => absurd c8 ((by simp only [i_lt, i_le, i_eq, ne_eq, Int32.reduceToInt, b2_0, b2_1, decide_eq_true_eq, decide_eq_false_iff_not, Bool.not_eq_true, Bool.not_eq_false] at * <;> omega))) (fun c8 => ?_)
    refine wq_l 12 d26_11 rfl rfl rfl rfl ?_
    refine wq_l 13 d26_12 rfl rfl rfl rfl ?_
    refine wq_gi (ci := 2) (j := 7) 16 d26_13 rfl rfl rfl rfl ?_
    rw [ls_7]
    refine wq_v 19 [_] d26_16 rfl rfl m27 rfl rfl (Nat.le_of_ble_eq_true rfl) rfl (sp27 (ls_T hT) (by omega) ?_)
    refine wq_s 20 d26_19 rfl rfl (Nat.le_of_ble_eq_true rfl) rfl rfl ?_
    refine wq_l 21 d26_20 rfl rfl rfl rfl ?_
    refine wq_k 23 9 d26_21 (by decide) rfl ?_
    refine wq_b 44 26 d26_23 rfl (by decide) rfl (fun c23 => ?_) (fun c23 => ?_)
    · -- pc 44
      have hbl' := hbl (by simp only [i_lt, i_le, i_eq, ne_eq, Int32.reduceToInt, b2_0, b2_1, decide_eq_true_eq, decide_eq_false_iff_not, Bool.not_eq_true, Bool.not_eq_false, e0, e1] at * <;> omega)
      have hpM := ein (by simp only [i_lt, i_le, i_eq, ne_eq, Int32.reduceToInt, b2_0, b2_1, decide_eq_true_eq, decide_eq_false_iff_not, Bool.not_eq_true, Bool.not_eq_false, e0, e1] at * <;> omega)
      refine wq_l 45 d26_44 rfl rfl rfl rfl ?_
      refine wq_a 46 d26_45 rfl rfl ?_
      refine wq_gi (ci := 2) (j := 7) 49 d26_46 rfl rfl rfl rfl ?_
      rw [ls_7]
      refine wq_k 50 1 d26_49 (by decide) rfl ?_
      refine wq_a 51 d26_50 rfl rfl ?_
      refine wq_pf (ci := 2) (j := 7) 54 d26_51 rfl rfl rfl ⟨rfl, rfl⟩ rfl ?_
      rw [show nI p + 1 = nI (p + 1) from (nI_succ p).symm, ls_p7]
      refine wq_g 89 d26_54 (by decide) ?_
      refine wq_i 92 d26_89 rfl rfl rfl ?_
      rw [show nI (n + 1) + Int32.ofInt (-1) = nI n from nI_m1 n]
      refine wq_g 7 d26_92 (by decide) ?_
      exact ih (p + 1) _ (by omega) (by omega) (by omega) hbl'
    · -- pc 26
      refine wq_l 27 d26_26 rfl rfl rfl rfl ?_
      refine wq_k 29 10 d26_27 (by decide) rfl ?_
      refine wq_b 44 32 d26_29 rfl (by decide) rfl (fun c29 => ?_) (fun c29 => ?_)
      · -- pc 44
        have hbl' := hbl (by simp only [i_lt, i_le, i_eq, ne_eq, Int32.reduceToInt, b2_0, b2_1, decide_eq_true_eq, decide_eq_false_iff_not, Bool.not_eq_true, Bool.not_eq_false, e0, e1] at * <;> omega)
        have hpM := ein (by simp only [i_lt, i_le, i_eq, ne_eq, Int32.reduceToInt, b2_0, b2_1, decide_eq_true_eq, decide_eq_false_iff_not, Bool.not_eq_true, Bool.not_eq_false, e0, e1] at * <;> omega)
        refine wq_l 45 d26_44 rfl rfl rfl rfl ?_
        refine wq_a 46 d26_45 rfl rfl ?_
        refine wq_gi (ci := 2) (j := 7) 49 d26_46 rfl rfl rfl rfl ?_
        rw [ls_7]
        refine wq_k 50 1 d26_49 (by decide) rfl ?_
        refine wq_a 51 d26_50 rfl rfl ?_
        refine wq_pf (ci := 2) (j := 7) 54 d26_51 rfl rfl rfl ⟨rfl, rfl⟩ rfl ?_
        rw [show nI p + 1 = nI (p + 1) from (nI_succ p).symm, ls_p7]
        refine wq_g 89 d26_54 (by decide) ?_
        refine wq_i 92 d26_89 rfl rfl rfl ?_
        rw [show nI (n + 1) + Int32.ofInt (-1) = nI n from nI_m1 n]
        refine wq_g 7 d26_92 (by decide) ?_
        exact ih (p + 1) _ (by omega) (by omega) (by omega) hbl'
      · -- pc 32
        refine wq_l 33 d26_32 rfl rfl rfl rfl ?_
        refine wq_k 35 13 d26_33 (by decide) rfl ?_
        refine wq_b 44 38 d26_35 rfl (by decide) rfl (fun c35 => ?_) (fun c35 => ?_)
        · -- pc 44
          have hbl' := hbl (by simp only [i_lt, i_le, i_eq, ne_eq, Int32.reduceToInt, b2_0, b2_1, decide_eq_true_eq, decide_eq_false_iff_not, Bool.not_eq_true, Bool.not_eq_false, e0, e1] at * <;> omega)
          have hpM := ein (by simp only [i_lt, i_le, i_eq, ne_eq, Int32.reduceToInt, b2_0, b2_1, decide_eq_true_eq, decide_eq_false_iff_not, Bool.not_eq_true, Bool.not_eq_false, e0, e1] at * <;> omega)
          refine wq_l 45 d26_44 rfl rfl rfl rfl ?_
          refine wq_a 46 d26_45 rfl rfl ?_
          refine wq_gi (ci := 2) (j := 7) 49 d26_46 rfl rfl rfl rfl ?_
          rw [ls_7]
          refine wq_k 50 1 d26_49 (by decide) rfl ?_
          refine wq_a 51 d26_50 rfl rfl ?_
          refine wq_pf (ci := 2) (j := 7) 54 d26_51 rfl rfl rfl ⟨rfl, rfl⟩ rfl ?_
          rw [show nI p + 1 = nI (p + 1) from (nI_succ p).symm, ls_p7]
          refine wq_g 89 d26_54 (by decide) ?_
          refine wq_i 92 d26_89 rfl rfl rfl ?_
          rw [show nI (n + 1) + Int32.ofInt (-1) = nI n from nI_m1 n]
          refine wq_g 7 d26_92 (by decide) ?_
          exact ih (p + 1) _ (by omega) (by omega) (by omega) hbl'
        · -- pc 38
          refine wq_l 39 d26_38 rfl rfl rfl rfl ?_
          refine wq_k 41 32 d26_39 (by decide) rfl ?_
          refine wq_b 57 44 d26_41 rfl (by decide) rfl (fun c41 => ?_) (fun c41 => ?_)
          · -- pc 57
            refine wq_l 58 d26_57 rfl rfl rfl rfl ?_
            refine wq_k 60 40 d26_58 (by decide) rfl ?_
            refine wq_b 78 63 d26_60 rfl (by decide) rfl (fun c60 => ?_) (fun c60 => ?_)
            · -- pc 78
              refine wq_k 79 1 d26_78 (by decide) rfl ?_
              refine wq_ri d26_79 (rfl) ?_
              exact hend (by simp only [i_lt, i_le, i_eq, ne_eq, Int32.reduceToInt, b2_0, b2_1, decide_eq_true_eq, decide_eq_false_iff_not, Bool.not_eq_true, Bool.not_eq_false, e0, e1] at * <;> omega) (by simp only [i_lt, i_le, i_eq, ne_eq, Int32.reduceToInt, b2_0, b2_1, decide_eq_true_eq, decide_eq_false_iff_not, Bool.not_eq_true, Bool.not_eq_false, e0, e1] at * <;> omega)
            · -- pc 63
              refine wq_l 64 d26_63 rfl rfl rfl rfl ?_
              refine wq_l 65 d26_64 rfl rfl rfl rfl ?_
              refine wq_gi (ci := 2) (j := 7) 68 d26_65 rfl rfl rfl rfl ?_
              rw [ls_7]
              refine wq_k 69 1 d26_68 (by decide) rfl ?_
              refine wq_a 70 d26_69 rfl rfl ?_
              rw [show nI p + 1 = nI (p + 1) from (nI_succ p).symm]
              refine wq_v 73 [_] d26_70 rfl rfl m27 rfl rfl (Nat.le_of_ble_eq_true rfl) rfl (sp27 (ls_T hT) (by omega) ?_)
              refine wq_k 75 42 d26_73 (by decide) rfl ?_
              refine wq_b 80 78 d26_75 rfl (by decide) rfl (fun c75 => ?_) (fun c75 => ?_)
              · -- pc 80
                have hcm' := hcm (by simp only [i_lt, i_le, i_eq, ne_eq, Int32.reduceToInt, b2_0, b2_1, decide_eq_true_eq, decide_eq_false_iff_not, Bool.not_eq_true, Bool.not_eq_false, e0, e1] at * <;> omega) (by simp only [i_lt, i_le, i_eq, ne_eq, Int32.reduceToInt, b2_0, b2_1, decide_eq_true_eq, decide_eq_false_iff_not, Bool.not_eq_true, Bool.not_eq_false, e0, e1] at * <;> omega)
                have hpM : p + 1 < M := lx_i_in (t := t) (M := M) (p := p + 1) (by simp only [i_lt, i_le, i_eq, ne_eq, Int32.reduceToInt, b2_0, b2_1, decide_eq_true_eq, decide_eq_false_iff_not, Bool.not_eq_true, Bool.not_eq_false, e0, e1] at * <;> omega)
                refine wq_l 81 d26_80 rfl rfl rfl rfl ?_
                refine wq_v 84 [] d26_81 rfl rfl m28 rfl rfl (Nat.le_of_ble_eq_true rfl) rfl (sp28 hT hpM (fun q hq => ?_) (fun hq => ?_))
                · refine wq_b 89 87 d26_84 rfl (by decide) rfl (fun _ => ?_) (fun z => absurd (by decide) z)
                  refine wq_i 92 d26_89 rfl rfl rfl ?_
                  refine wq_g 7 d26_92 (by decide) ?_
                  have := lx_cm_b hq
                  rw [show nI (n + 1) + Int32.ofInt (-1) = nI n from nI_m1 n]
                  exact ih q _ (by omega) (by omega) (by omega) (hcm'.1 q hq)
                · refine wq_b 89 87 d26_84 rfl (by decide) rfl (fun z => absurd rfl z) (fun _ => ?_)
                  refine wq_k 88 0 d26_87 (by decide) rfl ?_
                  exact wq_ri d26_88 rfl (hcm'.2 hq)
              · -- pc 78
                refine wq_k 79 1 d26_78 (by decide) rfl ?_
                refine wq_ri d26_79 (rfl) ?_
                exact hend (by simp only [i_lt, i_le, i_eq, ne_eq, Int32.reduceToInt, b2_0, b2_1, decide_eq_true_eq, decide_eq_false_iff_not, Bool.not_eq_true, Bool.not_eq_false, e0, e1] at * <;> omega) (by simp only [i_lt, i_le, i_eq, ne_eq, Int32.reduceToInt, b2_0, b2_1, decide_eq_true_eq, decide_eq_false_iff_not, Bool.not_eq_true, Bool.not_eq_false, e0, e1] at * <;> omega)
          · -- pc 44
            have hbl' := hbl (by simp only [i_lt, i_le, i_eq, ne_eq, Int32.reduceToInt, b2_0, b2_1, decide_eq_true_eq, decide_eq_false_iff_not, Bool.not_eq_true, Bool.not_eq_false, e0, e1] at * <;> omega)
            have hpM := ein (by simp only [i_lt, i_le, i_eq, ne_eq, Int32.reduceToInt, b2_0, b2_1, decide_eq_true_eq, decide_eq_false_iff_not, Bool.not_eq_true, Bool.not_eq_false, e0, e1] at * <;> omega)
            refine wq_l 45 d26_44 rfl rfl rfl rfl ?_
            refine wq_a 46 d26_45 rfl rfl ?_
            refine wq_gi (ci := 2) (j := 7) 49 d26_46 rfl rfl rfl rfl ?_
            rw [ls_7]
            refine wq_k 50 1 d26_49 (by decide) rfl ?_
            refine wq_a 51 d26_50 rfl rfl ?_
            refine wq_pf (ci := 2) (j := 7) 54 d26_51 rfl rfl rfl ⟨rfl, rfl⟩ rfl ?_
            rw [show nI p + 1 = nI (p + 1) from (nI_succ p).symm, ls_p7]
            refine wq_g 89 d26_54 (by decide) ?_
            refine wq_i 92 d26_89 rfl rfl rfl ?_
            rw [show nI (n + 1) + Int32.ofInt (-1) = nI n from nI_m1 n]
            refine wq_g 7 d26_92 (by decide) ?_
            exact ih (p + 1) _ (by omega) (by omega) (by omega) hbl'
theorem sp26 {d : Nat} {σ : pm_S} {Q : Option Value → pm_S → Prop} {t : Nat → Nat} {M : Nat} {p : Nat} {a : Int64} (hT : lx_T σ t M) (hp : p ≤ M) (hQ : Q (some (.int (b2 (lx_sk t M p).2))) (ls σ (lx_sk t M p).1 a)) : pm_call pm_Y0 (d + 2) 26 [.ref 2] (ls σ p a) Q := by
  have hM := hT.2.1
  refine wq_m m26 (Nat.le_of_ble_eq_true rfl) (by decide) rfl ?_
  refine wq_l 1 d26_0 rfl rfl rfl rfl ?_
  refine wq_gi (ci := 2) (j := 6) 4 d26_1 rfl rfl rfl rfl ?_
  rw [show (ls σ p a).1 2 6 = nI M from hT.1]
  refine wq_k 5 1 d26_4 (by decide) rfl ?_
  refine wq_a 6 d26_5 rfl rfl ?_
  rw [show nI M + 1 = nI (M + 1) from (nI_succ M).symm]
  refine wq_s 7 d26_6 rfl rfl (Nat.le_of_ble_eq_true rfl) rfl rfl ?_
  exact lx_bl0 hT _ _ _ (by omega) (by omega) hp hQ
theorem d41_0 : decode prog_9_method_29_code 0 = .ok (.aload_n 0, 1) := by decide +kernel
theorem d41_1 : decode prog_9_method_29_code 1 = .ok (.getfield 36, 3) := by decide +kernel
theorem d41_4 : decode prog_9_method_29_code 4 = .ok (.istore_n 1, 1) := by decide +kernel
theorem d41_5 : decode prog_9_method_29_code 5 = .ok (.aload_n 0, 1) := by decide +kernel
theorem d41_6 : decode prog_9_method_29_code 6 = .ok (.iload_n 1, 1) := by decide +kernel
theorem d41_7 : decode prog_9_method_29_code 7 = .ok (.iconst 1, 1) := by decide +kernel
theorem d41_8 : decode prog_9_method_29_code 8 = .ok (.iadd, 1) := by decide +kernel
theorem d41_9 : decode prog_9_method_29_code 9 = .ok (.invokevirtual 139, 3) := by decide +kernel
theorem d41_12 : decode prog_9_method_29_code 12 = .ok (.invokestatic 144, 3) := by decide +kernel
theorem d41_15 : decode prog_9_method_29_code 15 = .ok (.istore_n 2, 1) := by decide +kernel
theorem d41_16 : decode prog_9_method_29_code 16 = .ok (.aload_n 0, 1) := by decide +kernel
theorem d41_17 : decode prog_9_method_29_code 17 = .ok (.iload_n 1, 1) := by decide +kernel
theorem d41_18 : decode prog_9_method_29_code 18 = .ok (.iconst 2, 1) := by decide +kernel
theorem d41_19 : decode prog_9_method_29_code 19 = .ok (.iadd, 1) := by decide +kernel
theorem d41_20 : decode prog_9_method_29_code 20 = .ok (.invokevirtual 139, 3) := by decide +kernel
theorem d41_23 : decode prog_9_method_29_code 23 = .ok (.istore_n 3, 1) := by decide +kernel
theorem d41_24 : decode prog_9_method_29_code 24 = .ok (.iload_n 2, 1) := by decide +kernel
theorem d41_25 : decode prog_9_method_29_code 25 = .ok (.iconst (-1), 1) := by decide +kernel
theorem d41_26 : decode prog_9_method_29_code 26 = .ok (.if_icmp .eq 19, 3) := by decide +kernel
theorem d41_29 : decode prog_9_method_29_code 29 = .ok (.iload_n 3, 1) := by decide +kernel
theorem d41_30 : decode prog_9_method_29_code 30 = .ok (.bipush 88, 2) := by decide +kernel
theorem d41_32 : decode prog_9_method_29_code 32 = .ok (.if_icmp .eq 9, 3) := by decide +kernel
theorem d41_35 : decode prog_9_method_29_code 35 = .ok (.iload_n 3, 1) := by decide +kernel
theorem d41_36 : decode prog_9_method_29_code 36 = .ok (.bipush 87, 2) := by decide +kernel
theorem d41_38 : decode prog_9_method_29_code 38 = .ok (.if_icmp .ne 7, 3) := by decide +kernel
theorem d41_41 : decode prog_9_method_29_code 41 = .ok (.iconst 1, 1) := by decide +kernel
theorem d41_42 : decode prog_9_method_29_code 42 = .ok (.goto 4, 3) := by decide +kernel
theorem d41_45 : decode prog_9_method_29_code 45 = .ok (.iconst 0, 1) := by decide +kernel
theorem d41_46 : decode prog_9_method_29_code 46 = .ok (.istore 4, 2) := by decide +kernel
theorem d41_48 : decode prog_9_method_29_code 48 = .ok (.aload_n 0, 1) := by decide +kernel
theorem d41_49 : decode prog_9_method_29_code 49 = .ok (.dup, 1) := by decide +kernel
theorem d41_50 : decode prog_9_method_29_code 50 = .ok (.getfield 36, 3) := by decide +kernel
theorem d41_53 : decode prog_9_method_29_code 53 = .ok (.iconst 3, 1) := by decide +kernel
theorem d41_54 : decode prog_9_method_29_code 54 = .ok (.iadd, 1) := by decide +kernel
theorem d41_55 : decode prog_9_method_29_code 55 = .ok (.putfield 36, 3) := by decide +kernel
theorem d41_58 : decode prog_9_method_29_code 58 = .ok (.iload 4, 2) := by decide +kernel
theorem d41_60 : decode prog_9_method_29_code 60 = .ok (.ifCond .eq 49, 3) := by decide +kernel
theorem d41_63 : decode prog_9_method_29_code 63 = .ok (.aload_n 0, 1) := by decide +kernel
theorem d41_64 : decode prog_9_method_29_code 64 = .ok (.bipush 10, 2) := by decide +kernel
theorem d41_66 : decode prog_9_method_29_code 66 = .ok (.invokevirtual 110, 3) := by decide +kernel
theorem d41_69 : decode prog_9_method_29_code 69 = .ok (.ifCond .eq 40, 3) := by decide +kernel
theorem d41_72 : decode prog_9_method_29_code 72 = .ok (.aload_n 0, 1) := by decide +kernel
theorem d41_73 : decode prog_9_method_29_code 73 = .ok (.getfield 39, 3) := by decide +kernel
theorem d41_76 : decode prog_9_method_29_code 76 = .ok (.iload_n 3, 1) := by decide +kernel
theorem d41_77 : decode prog_9_method_29_code 77 = .ok (.bipush 88, 2) := by decide +kernel
theorem d41_79 : decode prog_9_method_29_code 79 = .ok (.if_icmp .ne 9, 3) := by decide +kernel
theorem d41_82 : decode prog_9_method_29_code 82 = .ok (.sipush 255, 3) := by decide +kernel
theorem d41_85 : decode prog_9_method_29_code 85 = .ok (.goto 5, 3) := by decide +kernel
theorem d41_88 : decode prog_9_method_29_code 88 = .ok (.bipush 63, 2) := by decide +kernel
theorem d41_90 : decode prog_9_method_29_code 90 = .ok (.i2l, 1) := by decide +kernel
theorem d41_91 : decode prog_9_method_29_code 91 = .ok (.lcmp, 1) := by decide +kernel
theorem d41_92 : decode prog_9_method_29_code 92 = .ok (.ifCond .gt 17, 3) := by decide +kernel
theorem d41_95 : decode prog_9_method_29_code 95 = .ok (.aload_n 0, 1) := by decide +kernel
theorem d41_96 : decode prog_9_method_29_code 96 = .ok (.aload_n 0, 1) := by decide +kernel
theorem d41_97 : decode prog_9_method_29_code 97 = .ok (.getfield 36, 3) := by decide +kernel
theorem d41_100 : decode prog_9_method_29_code 100 = .ok (.invokevirtual 73, 3) := by decide +kernel
theorem d41_103 : decode prog_9_method_29_code 103 = .ok (.invokestatic 91, 3) := by decide +kernel
theorem d41_106 : decode prog_9_method_29_code 106 = .ok (.ifCond .eq 10, 3) := by decide +kernel
theorem d41_109 : decode prog_9_method_29_code 109 = .ok (.aload_n 0, 1) := by decide +kernel
theorem d41_110 : decode prog_9_method_29_code 110 = .ok (.iconst 5, 1) := by decide +kernel
theorem d41_111 : decode prog_9_method_29_code 111 = .ok (.iload_n 1, 1) := by decide +kernel
theorem d41_112 : decode prog_9_method_29_code 112 = .ok (.invokevirtual 69, 3) := by decide +kernel
theorem d41_115 : decode prog_9_method_29_code 115 = .ok (.ireturn, 1) := by decide +kernel
theorem d41_116 : decode prog_9_method_29_code 116 = .ok (.iload_n 3, 1) := by decide +kernel
theorem d41_117 : decode prog_9_method_29_code 117 = .ok (.bipush 88, 2) := by decide +kernel
theorem d41_119 : decode prog_9_method_29_code 119 = .ok (.if_icmp .ne 7, 3) := by decide +kernel
theorem d41_122 : decode prog_9_method_29_code 122 = .ok (.iload_n 2, 1) := by decide +kernel
theorem d41_123 : decode prog_9_method_29_code 123 = .ok (.goto 6, 3) := by decide +kernel
theorem d41_126 : decode prog_9_method_29_code 126 = .ok (.iload_n 2, 1) := by decide +kernel
theorem d41_127 : decode prog_9_method_29_code 127 = .ok (.iconst 3, 1) := by decide +kernel
theorem d41_128 : decode prog_9_method_29_code 128 = .ok (.iadd, 1) := by decide +kernel
theorem d41_129 : decode prog_9_method_29_code 129 = .ok (.istore 5, 2) := by decide +kernel
theorem d41_131 : decode prog_9_method_29_code 131 = .ok (.aload_n 0, 1) := by decide +kernel
theorem d41_132 : decode prog_9_method_29_code 132 = .ok (.bipush 43, 2) := by decide +kernel
theorem d41_134 : decode prog_9_method_29_code 134 = .ok (.iload_n 1, 1) := by decide +kernel
theorem d41_135 : decode prog_9_method_29_code 135 = .ok (.sipush 256, 3) := by decide +kernel
theorem d41_138 : decode prog_9_method_29_code 138 = .ok (.iload 5, 2) := by decide +kernel
theorem d41_140 : decode prog_9_method_29_code 140 = .ok (.imul, 1) := by decide +kernel
theorem d41_141 : decode prog_9_method_29_code 141 = .ok (.aload_n 0, 1) := by decide +kernel
theorem d41_142 : decode prog_9_method_29_code 142 = .ok (.getfield 39, 3) := by decide +kernel
theorem d41_145 : decode prog_9_method_29_code 145 = .ok (.l2i, 1) := by decide +kernel
theorem d41_146 : decode prog_9_method_29_code 146 = .ok (.iadd, 1) := by decide +kernel
theorem d41_147 : decode prog_9_method_29_code 147 = .ok (.invokevirtual 77, 3) := by decide +kernel
theorem d41_150 : decode prog_9_method_29_code 150 = .ok (.iconst 1, 1) := by decide +kernel
theorem d41_151 : decode prog_9_method_29_code 151 = .ok (.ireturn, 1) := by decide +kernel
theorem m41 : pm_m 41 = some (⟨"TypeRules$Tokens", "readPlace", "()Z"⟩, prog_9_method_29_code, 6, (some FieldType.boolean), 2, 0, 3) := rfl
theorem lx_ar_a (c : Int) : (lx_area c = 9 ∧ lx_ar c = -1) ∨ (lx_area c < 3 ∧ lx_ar c = nI (lx_area c)) := by
  unfold lx_area lx_ar
  by_cases h1 : c = 73
  · rw [if_pos h1, if_pos h1]; exact Or.inr ⟨by decide, rfl⟩
  · rw [if_neg h1, if_neg h1]
    by_cases h2 : c = 81
    · rw [if_pos h2, if_pos h2]; exact Or.inr ⟨by decide, rfl⟩
    · rw [if_neg h2, if_neg h2]
      by_cases h3 : c = 77
      · rw [if_pos h3, if_pos h3]; exact Or.inr ⟨by decide, rfl⟩
      · rw [if_neg h3, if_neg h3]; exact Or.inl ⟨rfl, rfl⟩
/-- good, by the letters -/
def lx_kn (t : Nat → Nat) (M p : Nat) : Prop := lx_area (lx_gi t M (p + 1)) ≠ 9 ∧ (lx_gi t M (p + 2) = 88 ∨ lx_gi t M (p + 2) = 87)
theorem lx_p46 {d : Nat} {σ : pm_S} {Q : Option Value → pm_S → Prop} {t : Nat → Nat} {M c : Nat} {p : Nat} {a : Int64} {kn : Int32} {v1 v2 : Value} (hT : lx_T σ t M) (h5 : σ.1 2 5 = nI c) (hc : c < 8193) (hp : p < M) (hk : (kn = 1 ∧ lx_kn t M p) ∨ (kn = 0 ∧ ¬ lx_kn t M p)) (hQ : lx_Q Q σ c p (lx_pla t M p)) : pm_WP pm_Y0 (pm_call pm_Y0 (d + 3)) 2 prog_9_method_29_code (some FieldType.boolean) Q 46 [.ref 2, .int (nI p), .int (lx_ar (lx_gi t M (p + 1))), .int (lx_g t M (p + 2)), v1, v2] [.int kn] (ls σ p a) := by
  have hT' := hT
  obtain ⟨hL, hM, hch, ht⟩ := hT'
  have b1 := lx_de_b (t := t) (M := M) (b := 10) (M - (p + 3)) (p + 3)
  have b2 : p + 3 ≤ lx_de t M 10 (p + 3) := b1.1
  have b3 : lx_de t M 10 (p + 3) ≤ M + 3 := by
    by_cases q : p + 3 ≤ M
    · have : lx_de t M 10 (p + 3) ≤ M := b1.2 q
      omega
    · rw [lx_de_u, if_neg (by omega)]; omega
  generalize hE : lx_de t M 10 (p + 3) = e at *
  generalize hV : lx_dv t M 10 (p + 3) 0 = V at *
  have e2 := lx_gci (M := M) ht (p + 2)
  have e0 := lx_ci (M := M) ht e
  have ew := lN_t (n := min V 4294967296) (by omega)
  have eD := nI_toInt (n := e - (p + 3)) (by omega)
  have el1 : (((255 : Int32).toInt64)).toInt = 255 := rfl
  have el2 : (((63 : Int32).toInt64)).toInt = 63 := rfl
  have hbad : ¬ (lx_kn t M p ∧ e ≠ p + 3 ∧ V ≤ (if lx_gi t M (p + 2) = 88 then 255 else 63) ∧ lx_np (lx_i t M e) = false) → ∀ e' a', Q (some (.int 0)) (la (ls σ e' a') c 45 (nI p) 5) := fun h e' a' => by
    rw [show lx_pla t M p = (45, 5, p) from by unfold lx_pla; rw [hE, hV]; exact if_neg (fun z => h ⟨⟨z.1, z.2.1⟩, z.2.2⟩)] at hQ
    exact hQ e' a' (fun z => absurd rfl z)
  have hgd : (lx_kn t M p ∧ e ≠ p + 3 ∧ V ≤ (if lx_gi t M (p + 2) = 88 then 255 else 63) ∧ lx_np (lx_i t M e) = false) → ∀ a', Q (some (.int 1)) (la (ls σ e a') c 43 (nI p) (nI (256 * (lx_area (lx_gi t M (p + 1)) + (if lx_gi t M (p + 2) = 88 then 0 else 3)) + V))) := fun h a' => by
    rw [show lx_pla t M p = (43, 256 * (lx_area (lx_gi t M (p + 1)) + (if lx_gi t M (p + 2) = 88 then 0 else 3)) + V, e) from by unfold lx_pla; rw [hE, hV]; exact if_pos ⟨h.1.1, h.1.2, h.2⟩] at hQ
    exact hQ e a' (fun _ => rfl)
  clear hQ
  have har := lx_ar_a (lx_gi t M (p + 1))
  refine wq_s 48 d41_46 rfl rfl (Nat.le_of_ble_eq_true rfl) rfl rfl ?_
  refine wq_l 49 d41_48 rfl rfl rfl rfl ?_
  refine wq_a 50 d41_49 rfl rfl ?_
  refine wq_gi (ci := 2) (j := 7) 53 d41_50 rfl rfl rfl rfl ?_
  rw [ls_7]
  refine wq_k 54 3 d41_53 (by decide) rfl ?_
  refine wq_a 55 d41_54 rfl rfl ?_
  refine wq_pf (ci := 2) (j := 7) 58 d41_55 rfl rfl rfl ⟨rfl, rfl⟩ rfl ?_
  rw [show nI p + 3 = nI (p + 3) from nI_add p 3, ls_p7]
  refine wq_l 60 d41_58 rfl rfl rfl rfl ?_
  refine wq_b 109 63 d41_60 rfl (by decide) rfl (fun c60 => ?_) (fun c60 => ?_)
  · -- pc 109
    have hb : ¬ (lx_kn t M p ∧ e ≠ p + 3 ∧ V ≤ (if lx_gi t M (p + 2) = 88 then 255 else 63) ∧ lx_np (lx_i t M e) = false) := by
      rintro ⟨h1, h2, h3, h4⟩
      first
        | (rcases hk with ⟨h, _⟩ | ⟨_, h⟩; (rw [h] at c60; exact absurd c60 (by decide)); exact absurd h1 h)
        | (have z := c69; simp only [i_lt, i_le, i_eq, ne_eq, Int32.reduceToInt, b2_0, b2_1, decide_eq_true_eq, decide_eq_false_iff_not, Bool.not_eq_true, Bool.not_eq_false, eD] at z; omega)
        | (have q88 : ¬ lx_gi t M (p + 2) = 88 := by have z := c79; simp only [i_lt, i_le, i_eq, ne_eq, Int32.reduceToInt, b2_0, b2_1, decide_eq_true_eq, decide_eq_false_iff_not, Bool.not_eq_true, Bool.not_eq_false, e2] at z; omega
           rw [if_neg q88] at h3; have z := c92; simp only [lc_gt, ew, el2, gt_iff_lt] at z; omega)
        | (have q88 : lx_gi t M (p + 2) = 88 := by have z := c79; simp only [i_lt, i_le, i_eq, ne_eq, Int32.reduceToInt, b2_0, b2_1, decide_eq_true_eq, decide_eq_false_iff_not, Bool.not_eq_true, Bool.not_eq_false, e2] at z; omega
           rw [if_pos q88] at h3; have z := c92; simp only [lc_gt, ew, el1, gt_iff_lt] at z; omega)
        | (have z := c106; simp only [i_lt, i_le, i_eq, ne_eq, Int32.reduceToInt, b2_0, b2_1, decide_eq_true_eq, decide_eq_false_iff_not, Bool.not_eq_true, Bool.not_eq_false, e0] at z; rw [h4] at z; exact absurd rfl z)
        | (have z := c106; simp only [i_lt, i_le, i_eq, ne_eq, Int32.reduceToInt, b2_0, b2_1, decide_eq_true_eq, decide_eq_false_iff_not, Bool.not_eq_true, Bool.not_eq_false, e0] at z; rw [h4] at z; cases z)
    refine wq_l 110 d41_109 rfl rfl rfl rfl ?_
    refine wq_k 111 5 d41_110 (by decide) rfl ?_
    refine wq_l 112 d41_111 rfl rfl rfl rfl ?_
    refine wq_v 115 [_, _] d41_112 rfl rfl m29 rfl rfl (Nat.le_of_ble_eq_true rfl) rfl (sp29 h5 hc ?_)
    refine wq_ri d41_115 (rfl) ?_
    exact hbad hb _ _
  · -- pc 63
    have hkn : lx_kn t M p := by rcases hk with ⟨_, h⟩ | ⟨h, _⟩; exact h; exact absurd h c60
    refine wq_l 64 d41_63 rfl rfl rfl rfl ?_
    refine wq_k 66 10 d41_64 (by decide) rfl ?_
    refine wq_v 69 [_] d41_66 rfl rfl m32 rfl rfl (Nat.le_of_ble_eq_true rfl) rfl (sp32 (b := 10) hT (by decide) (by omega) ?_)
    rw [hE, hV]
    refine wq_b 109 72 d41_69 rfl (by decide) rfl (fun c69 => ?_) (fun c69 => ?_)
    · -- pc 109
      have hb : ¬ (lx_kn t M p ∧ e ≠ p + 3 ∧ V ≤ (if lx_gi t M (p + 2) = 88 then 255 else 63) ∧ lx_np (lx_i t M e) = false) := by
        rintro ⟨h1, h2, h3, h4⟩
        first
          | (rcases hk with ⟨h, _⟩ | ⟨_, h⟩; (rw [h] at c60; exact absurd c60 (by decide)); exact absurd h1 h)
          | (have z := c69; simp only [i_lt, i_le, i_eq, ne_eq, Int32.reduceToInt, b2_0, b2_1, decide_eq_true_eq, decide_eq_false_iff_not, Bool.not_eq_true, Bool.not_eq_false, eD] at z; omega)
          | (have q88 : ¬ lx_gi t M (p + 2) = 88 := by have z := c79; simp only [i_lt, i_le, i_eq, ne_eq, Int32.reduceToInt, b2_0, b2_1, decide_eq_true_eq, decide_eq_false_iff_not, Bool.not_eq_true, Bool.not_eq_false, e2] at z; omega
             rw [if_neg q88] at h3; have z := c92; simp only [lc_gt, ew, el2, gt_iff_lt] at z; omega)
          | (have q88 : lx_gi t M (p + 2) = 88 := by have z := c79; simp only [i_lt, i_le, i_eq, ne_eq, Int32.reduceToInt, b2_0, b2_1, decide_eq_true_eq, decide_eq_false_iff_not, Bool.not_eq_true, Bool.not_eq_false, e2] at z; omega
             rw [if_pos q88] at h3; have z := c92; simp only [lc_gt, ew, el1, gt_iff_lt] at z; omega)
          | (have z := c106; simp only [i_lt, i_le, i_eq, ne_eq, Int32.reduceToInt, b2_0, b2_1, decide_eq_true_eq, decide_eq_false_iff_not, Bool.not_eq_true, Bool.not_eq_false, e0] at z; rw [h4] at z; exact absurd rfl z)
          | (have z := c106; simp only [i_lt, i_le, i_eq, ne_eq, Int32.reduceToInt, b2_0, b2_1, decide_eq_true_eq, decide_eq_false_iff_not, Bool.not_eq_true, Bool.not_eq_false, e0] at z; rw [h4] at z; cases z)
      refine wq_l 110 d41_109 rfl rfl rfl rfl ?_
      refine wq_k 111 5 d41_110 (by decide) rfl ?_
      refine wq_l 112 d41_111 rfl rfl rfl rfl ?_
      refine wq_v 115 [_, _] d41_112 rfl rfl m29 rfl rfl (Nat.le_of_ble_eq_true rfl) rfl (sp29 h5 hc ?_)
      refine wq_ri d41_115 (rfl) ?_
      exact hbad hb _ _
    · -- pc 72
      have hne : e ≠ p + 3 := by have z := c69; simp only [i_lt, i_le, i_eq, ne_eq, Int32.reduceToInt, b2_0, b2_1, decide_eq_true_eq, decide_eq_false_iff_not, Bool.not_eq_true, Bool.not_eq_false, eD] at z; omega
      refine wq_l 73 d41_72 rfl rfl rfl rfl ?_
      refine wq_gl (ci := 2) (j := 8) 76 d41_73 rfl rfl rfl rfl ?_
      rw [ls_8]
      refine wq_l 77 d41_76 rfl rfl rfl rfl ?_
      refine wq_k 79 88 d41_77 (by decide) rfl ?_
      refine wq_b 88 82 d41_79 rfl (by decide) rfl (fun c79 => ?_) (fun c79 => ?_)
      · -- pc 88
        refine wq_k 90 63 d41_88 (by decide) rfl ?_
        refine wq_a 91 d41_90 rfl rfl ?_
        refine wq_a 92 d41_91 rfl rfl ?_
        refine wq_b 109 95 d41_92 rfl (by decide) rfl (fun c92 => ?_) (fun c92 => ?_)
        · -- pc 109
          have hb : ¬ (lx_kn t M p ∧ e ≠ p + 3 ∧ V ≤ (if lx_gi t M (p + 2) = 88 then 255 else 63) ∧ lx_np (lx_i t M e) = false) := by
            rintro ⟨h1, h2, h3, h4⟩
            first
              | (rcases hk with ⟨h, _⟩ | ⟨_, h⟩; (rw [h] at c60; exact absurd c60 (by decide)); exact absurd h1 h)
              | (have z := c69; simp only [i_lt, i_le, i_eq, ne_eq, Int32.reduceToInt, b2_0, b2_1, decide_eq_true_eq, decide_eq_false_iff_not, Bool.not_eq_true, Bool.not_eq_false, eD] at z; omega)
              | (have q88 : ¬ lx_gi t M (p + 2) = 88 := by have z := c79; simp only [i_lt, i_le, i_eq, ne_eq, Int32.reduceToInt, b2_0, b2_1, decide_eq_true_eq, decide_eq_false_iff_not, Bool.not_eq_true, Bool.not_eq_false, e2] at z; omega
                 rw [if_neg q88] at h3; have z := c92; simp only [lc_gt, ew, el2, gt_iff_lt] at z; omega)
              | (have q88 : lx_gi t M (p + 2) = 88 := by have z := c79; simp only [i_lt, i_le, i_eq, ne_eq, Int32.reduceToInt, b2_0, b2_1, decide_eq_true_eq, decide_eq_false_iff_not, Bool.not_eq_true, Bool.not_eq_false, e2] at z; omega
                 rw [if_pos q88] at h3; have z := c92; simp only [lc_gt, ew, el1, gt_iff_lt] at z; omega)
              | (have z := c106; simp only [i_lt, i_le, i_eq, ne_eq, Int32.reduceToInt, b2_0, b2_1, decide_eq_true_eq, decide_eq_false_iff_not, Bool.not_eq_true, Bool.not_eq_false, e0] at z; rw [h4] at z; exact absurd rfl z)
              | (have z := c106; simp only [i_lt, i_le, i_eq, ne_eq, Int32.reduceToInt, b2_0, b2_1, decide_eq_true_eq, decide_eq_false_iff_not, Bool.not_eq_true, Bool.not_eq_false, e0] at z; rw [h4] at z; cases z)
          refine wq_l 110 d41_109 rfl rfl rfl rfl ?_
          refine wq_k 111 5 d41_110 (by decide) rfl ?_
          refine wq_l 112 d41_111 rfl rfl rfl rfl ?_
          refine wq_v 115 [_, _] d41_112 rfl rfl m29 rfl rfl (Nat.le_of_ble_eq_true rfl) rfl (sp29 h5 hc ?_)
          refine wq_ri d41_115 (rfl) ?_
          exact hbad hb _ _
        · -- pc 95
          refine wq_l 96 d41_95 rfl rfl rfl rfl ?_
          refine wq_l 97 d41_96 rfl rfl rfl rfl ?_
          refine wq_gi (ci := 2) (j := 7) 100 d41_97 rfl rfl rfl rfl ?_
          rw [ls_7]
          refine wq_v 103 [_] d41_100 rfl rfl m27 rfl rfl (Nat.le_of_ble_eq_true rfl) rfl (sp27 (ls_T hT) (by omega) ?_)
          refine wq_vs 106 [_] d41_103 rfl rfl m38 rfl (Nat.le_of_ble_eq_true rfl) rfl (sp38 ?_)
          refine wq_b 116 109 d41_106 rfl (by decide) rfl (fun c106 => ?_) (fun c106 => ?_)
          · -- pc 116
            have hnp : lx_np (lx_i t M e) = false := by have z := c106; simp only [i_lt, i_le, i_eq, ne_eq, Int32.reduceToInt, b2_0, b2_1, decide_eq_true_eq, decide_eq_false_iff_not, Bool.not_eq_true, Bool.not_eq_false, e0] at z; exact z
            have har2 : lx_area (lx_gi t M (p + 1)) < 3 ∧ lx_ar (lx_gi t M (p + 1)) = nI (lx_area (lx_gi t M (p + 1))) := har.resolve_left (fun z => hkn.1 z.1)
            generalize lx_area (lx_gi t M (p + 1)) = A at *
            have hV2 : V ≤ 255 ∧ V ≤ (if lx_gi t M (p + 2) = 88 then 255 else 63) := by
              first
                | (have q88 : ¬ lx_gi t M (p + 2) = 88 := by have z := c79; simp only [i_lt, i_le, i_eq, ne_eq, Int32.reduceToInt, b2_0, b2_1, decide_eq_true_eq, decide_eq_false_iff_not, Bool.not_eq_true, Bool.not_eq_false, e2] at z; omega
                   rw [if_neg q88]; have z := c92; simp only [lc_gt, ew, el2, gt_iff_lt] at z; omega)
                | (have q88 : lx_gi t M (p + 2) = 88 := by have z := c79; simp only [i_lt, i_le, i_eq, ne_eq, Int32.reduceToInt, b2_0, b2_1, decide_eq_true_eq, decide_eq_false_iff_not, Bool.not_eq_true, Bool.not_eq_false, e2] at z; omega
                   rw [if_pos q88]; have z := c92; simp only [lc_gt, ew, el1, gt_iff_lt] at z; omega)
            have hgd' := hgd ⟨hkn, hne, hV2.2, hnp⟩
            have hmV : min V 4294967296 = V := by omega
            refine wq_l 117 d41_116 rfl rfl rfl rfl ?_
            refine wq_k 119 88 d41_117 (by decide) rfl ?_
            refine wq_b 126 122 d41_119 rfl (by decide) rfl (fun c119 => ?_) (fun c119 => ?_)
            · have q88 : ¬ lx_gi t M (p + 2) = 88 := by have z := c119; simp only [i_lt, i_le, i_eq, ne_eq, Int32.reduceToInt, b2_0, b2_1, decide_eq_true_eq, decide_eq_false_iff_not, Bool.not_eq_true, Bool.not_eq_false, e2] at z; omega
              rw [if_neg q88] at hgd'
              refine wq_l 127 d41_126 rfl rfl rfl rfl ?_
              refine wq_k 128 3 d41_127 (by decide) rfl ?_
              refine wq_a 129 d41_128 rfl rfl ?_
              refine wq_s 131 d41_129 rfl rfl (Nat.le_of_ble_eq_true rfl) rfl rfl ?_
              refine wq_l 132 d41_131 rfl rfl rfl rfl ?_
              refine wq_k 134 43 d41_132 (by decide) rfl ?_
              refine wq_l 135 d41_134 rfl rfl rfl rfl ?_
              refine wq_k 138 256 d41_135 (by decide) rfl ?_
              refine wq_l 140 d41_138 rfl rfl rfl rfl ?_
              refine wq_a 141 d41_140 rfl rfl ?_
              refine wq_l 142 d41_141 rfl rfl rfl rfl ?_
              refine wq_gl (ci := 2) (j := 8) 145 d41_142 rfl rfl rfl rfl ?_
              rw [ls_8]
              refine wq_a 146 d41_145 rfl rfl ?_
              refine wq_a 147 d41_146 rfl rfl ?_
              rw [har2.2, lN_i, hmV, show (3 : Int32) = nI 3 from rfl, show (256 : Int32) = nI 256 from rfl, nI_add, pk_mul, nI_add]
              refine wq_v 150 [_, _, _] d41_147 rfl rfl m30 rfl rfl (Nat.le_of_ble_eq_true rfl) rfl (sp30 h5 hc ?_)
              refine wq_k 151 1 d41_150 (by decide) rfl ?_
              refine wq_ri d41_151 (rfl) ?_
              exact hgd' _
            · have q88 : lx_gi t M (p + 2) = 88 := by have z := c119; simp only [i_lt, i_le, i_eq, ne_eq, Int32.reduceToInt, b2_0, b2_1, decide_eq_true_eq, decide_eq_false_iff_not, Bool.not_eq_true, Bool.not_eq_false, e2] at z; omega
              rw [if_pos q88] at hgd'
              refine wq_l 123 d41_122 rfl rfl rfl rfl ?_
              refine wq_g 129 d41_123 (by decide) ?_
              refine wq_s 131 d41_129 rfl rfl (Nat.le_of_ble_eq_true rfl) rfl rfl ?_
              refine wq_l 132 d41_131 rfl rfl rfl rfl ?_
              refine wq_k 134 43 d41_132 (by decide) rfl ?_
              refine wq_l 135 d41_134 rfl rfl rfl rfl ?_
              refine wq_k 138 256 d41_135 (by decide) rfl ?_
              refine wq_l 140 d41_138 rfl rfl rfl rfl ?_
              refine wq_a 141 d41_140 rfl rfl ?_
              refine wq_l 142 d41_141 rfl rfl rfl rfl ?_
              refine wq_gl (ci := 2) (j := 8) 145 d41_142 rfl rfl rfl rfl ?_
              rw [ls_8]
              refine wq_a 146 d41_145 rfl rfl ?_
              refine wq_a 147 d41_146 rfl rfl ?_
              rw [har2.2, lN_i, hmV, show (256 : Int32) = nI 256 from rfl, pk_mul, nI_add]
              refine wq_v 150 [_, _, _] d41_147 rfl rfl m30 rfl rfl (Nat.le_of_ble_eq_true rfl) rfl (sp30 h5 hc ?_)
              refine wq_k 151 1 d41_150 (by decide) rfl ?_
              refine wq_ri d41_151 (rfl) ?_
              exact hgd' _
          · -- pc 109
            have hb : ¬ (lx_kn t M p ∧ e ≠ p + 3 ∧ V ≤ (if lx_gi t M (p + 2) = 88 then 255 else 63) ∧ lx_np (lx_i t M e) = false) := by
              rintro ⟨h1, h2, h3, h4⟩
              first
                | (rcases hk with ⟨h, _⟩ | ⟨_, h⟩; (rw [h] at c60; exact absurd c60 (by decide)); exact absurd h1 h)
                | (have z := c69; simp only [i_lt, i_le, i_eq, ne_eq, Int32.reduceToInt, b2_0, b2_1, decide_eq_true_eq, decide_eq_false_iff_not, Bool.not_eq_true, Bool.not_eq_false, eD] at z; omega)
                | (have q88 : ¬ lx_gi t M (p + 2) = 88 := by have z := c79; simp only [i_lt, i_le, i_eq, ne_eq, Int32.reduceToInt, b2_0, b2_1, decide_eq_true_eq, decide_eq_false_iff_not, Bool.not_eq_true, Bool.not_eq_false, e2] at z; omega
                   rw [if_neg q88] at h3; have z := c92; simp only [lc_gt, ew, el2, gt_iff_lt] at z; omega)
                | (have q88 : lx_gi t M (p + 2) = 88 := by have z := c79; simp only [i_lt, i_le, i_eq, ne_eq, Int32.reduceToInt, b2_0, b2_1, decide_eq_true_eq, decide_eq_false_iff_not, Bool.not_eq_true, Bool.not_eq_false, e2] at z; omega
                   rw [if_pos q88] at h3; have z := c92; simp only [lc_gt, ew, el1, gt_iff_lt] at z; omega)
                | (have z := c106; simp only [i_lt, i_le, i_eq, ne_eq, Int32.reduceToInt, b2_0, b2_1, decide_eq_true_eq, decide_eq_false_iff_not, Bool.not_eq_true, Bool.not_eq_false, e0] at z; rw [h4] at z; exact absurd rfl z)
                | (have z := c106; simp only [i_lt, i_le, i_eq, ne_eq, Int32.reduceToInt, b2_0, b2_1, decide_eq_true_eq, decide_eq_false_iff_not, Bool.not_eq_true, Bool.not_eq_false, e0] at z; rw [h4] at z; cases z)
            refine wq_l 110 d41_109 rfl rfl rfl rfl ?_
            refine wq_k 111 5 d41_110 (by decide) rfl ?_
            refine wq_l 112 d41_111 rfl rfl rfl rfl ?_
            refine wq_v 115 [_, _] d41_112 rfl rfl m29 rfl rfl (Nat.le_of_ble_eq_true rfl) rfl (sp29 h5 hc ?_)
            refine wq_ri d41_115 (rfl) ?_
            exact hbad hb _ _
      · -- pc 82
        refine wq_k 85 255 d41_82 (by decide) rfl ?_
        refine wq_g 90 d41_85 (by decide) ?_
        refine wq_a 91 d41_90 rfl rfl ?_
        refine wq_a 92 d41_91 rfl rfl ?_
        refine wq_b 109 95 d41_92 rfl (by decide) rfl (fun c92 => ?_) (fun c92 => ?_)
        · -- pc 109
          have hb : ¬ (lx_kn t M p ∧ e ≠ p + 3 ∧ V ≤ (if lx_gi t M (p + 2) = 88 then 255 else 63) ∧ lx_np (lx_i t M e) = false) := by
            rintro ⟨h1, h2, h3, h4⟩
            first
              | (rcases hk with ⟨h, _⟩ | ⟨_, h⟩; (rw [h] at c60; exact absurd c60 (by decide)); exact absurd h1 h)
              | (have z := c69; simp only [i_lt, i_le, i_eq, ne_eq, Int32.reduceToInt, b2_0, b2_1, decide_eq_true_eq, decide_eq_false_iff_not, Bool.not_eq_true, Bool.not_eq_false, eD] at z; omega)
              | (have q88 : ¬ lx_gi t M (p + 2) = 88 := by have z := c79; simp only [i_lt, i_le, i_eq, ne_eq, Int32.reduceToInt, b2_0, b2_1, decide_eq_true_eq, decide_eq_false_iff_not, Bool.not_eq_true, Bool.not_eq_false, e2] at z; omega
                 rw [if_neg q88] at h3; have z := c92; simp only [lc_gt, ew, el2, gt_iff_lt] at z; omega)
              | (have q88 : lx_gi t M (p + 2) = 88 := by have z := c79; simp only [i_lt, i_le, i_eq, ne_eq, Int32.reduceToInt, b2_0, b2_1, decide_eq_true_eq, decide_eq_false_iff_not, Bool.not_eq_true, Bool.not_eq_false, e2] at z; omega
                 rw [if_pos q88] at h3; have z := c92; simp only [lc_gt, ew, el1, gt_iff_lt] at z; omega)
              | (have z := c106; simp only [i_lt, i_le, i_eq, ne_eq, Int32.reduceToInt, b2_0, b2_1, decide_eq_true_eq, decide_eq_false_iff_not, Bool.not_eq_true, Bool.not_eq_false, e0] at z; rw [h4] at z; exact absurd rfl z)
              | (have z := c106; simp only [i_lt, i_le, i_eq, ne_eq, Int32.reduceToInt, b2_0, b2_1, decide_eq_true_eq, decide_eq_false_iff_not, Bool.not_eq_true, Bool.not_eq_false, e0] at z; rw [h4] at z; cases z)
          refine wq_l 110 d41_109 rfl rfl rfl rfl ?_
          refine wq_k 111 5 d41_110 (by decide) rfl ?_
          refine wq_l 112 d41_111 rfl rfl rfl rfl ?_
          refine wq_v 115 [_, _] d41_112 rfl rfl m29 rfl rfl (Nat.le_of_ble_eq_true rfl) rfl (sp29 h5 hc ?_)
          refine wq_ri d41_115 (rfl) ?_
          exact hbad hb _ _
        · -- pc 95
          refine wq_l 96 d41_95 rfl rfl rfl rfl ?_
          refine wq_l 97 d41_96 rfl rfl rfl rfl ?_
          refine wq_gi (ci := 2) (j := 7) 100 d41_97 rfl rfl rfl rfl ?_
          rw [ls_7]
          refine wq_v 103 [_] d41_100 rfl rfl m27 rfl rfl (Nat.le_of_ble_eq_true rfl) rfl (sp27 (ls_T hT) (by omega) ?_)
          refine wq_vs 106 [_] d41_103 rfl rfl m38 rfl (Nat.le_of_ble_eq_true rfl) rfl (sp38 ?_)
          refine wq_b 116 109 d41_106 rfl (by decide) rfl (fun c106 => ?_) (fun c106 => ?_)
          · -- pc 116
            have hnp : lx_np (lx_i t M e) = false := by have z := c106; simp only [i_lt, i_le, i_eq, ne_eq, Int32.reduceToInt, b2_0, b2_1, decide_eq_true_eq, decide_eq_false_iff_not, Bool.not_eq_true, Bool.not_eq_false, e0] at z; exact z
            have har2 : lx_area (lx_gi t M (p + 1)) < 3 ∧ lx_ar (lx_gi t M (p + 1)) = nI (lx_area (lx_gi t M (p + 1))) := har.resolve_left (fun z => hkn.1 z.1)
            generalize lx_area (lx_gi t M (p + 1)) = A at *
            have hV2 : V ≤ 255 ∧ V ≤ (if lx_gi t M (p + 2) = 88 then 255 else 63) := by
              first
                | (have q88 : ¬ lx_gi t M (p + 2) = 88 := by have z := c79; simp only [i_lt, i_le, i_eq, ne_eq, Int32.reduceToInt, b2_0, b2_1, decide_eq_true_eq, decide_eq_false_iff_not, Bool.not_eq_true, Bool.not_eq_false, e2] at z; omega
                   rw [if_neg q88]; have z := c92; simp only [lc_gt, ew, el2, gt_iff_lt] at z; omega)
                | (have q88 : lx_gi t M (p + 2) = 88 := by have z := c79; simp only [i_lt, i_le, i_eq, ne_eq, Int32.reduceToInt, b2_0, b2_1, decide_eq_true_eq, decide_eq_false_iff_not, Bool.not_eq_true, Bool.not_eq_false, e2] at z; omega
                   rw [if_pos q88]; have z := c92; simp only [lc_gt, ew, el1, gt_iff_lt] at z; omega)
            have hgd' := hgd ⟨hkn, hne, hV2.2, hnp⟩
            have hmV : min V 4294967296 = V := by omega
            refine wq_l 117 d41_116 rfl rfl rfl rfl ?_
            refine wq_k 119 88 d41_117 (by decide) rfl ?_
            refine wq_b 126 122 d41_119 rfl (by decide) rfl (fun c119 => ?_) (fun c119 => ?_)
            · have q88 : ¬ lx_gi t M (p + 2) = 88 := by have z := c119; simp only [i_lt, i_le, i_eq, ne_eq, Int32.reduceToInt, b2_0, b2_1, decide_eq_true_eq, decide_eq_false_iff_not, Bool.not_eq_true, Bool.not_eq_false, e2] at z; omega
              rw [if_neg q88] at hgd'
              refine wq_l 127 d41_126 rfl rfl rfl rfl ?_
              refine wq_k 128 3 d41_127 (by decide) rfl ?_
              refine wq_a 129 d41_128 rfl rfl ?_
              refine wq_s 131 d41_129 rfl rfl (Nat.le_of_ble_eq_true rfl) rfl rfl ?_
              refine wq_l 132 d41_131 rfl rfl rfl rfl ?_
              refine wq_k 134 43 d41_132 (by decide) rfl ?_
              refine wq_l 135 d41_134 rfl rfl rfl rfl ?_
              refine wq_k 138 256 d41_135 (by decide) rfl ?_
              refine wq_l 140 d41_138 rfl rfl rfl rfl ?_
              refine wq_a 141 d41_140 rfl rfl ?_
              refine wq_l 142 d41_141 rfl rfl rfl rfl ?_
              refine wq_gl (ci := 2) (j := 8) 145 d41_142 rfl rfl rfl rfl ?_
              rw [ls_8]
              refine wq_a 146 d41_145 rfl rfl ?_
              refine wq_a 147 d41_146 rfl rfl ?_
              rw [har2.2, lN_i, hmV, show (3 : Int32) = nI 3 from rfl, show (256 : Int32) = nI 256 from rfl, nI_add, pk_mul, nI_add]
              refine wq_v 150 [_, _, _] d41_147 rfl rfl m30 rfl rfl (Nat.le_of_ble_eq_true rfl) rfl (sp30 h5 hc ?_)
              refine wq_k 151 1 d41_150 (by decide) rfl ?_
              refine wq_ri d41_151 (rfl) ?_
              exact hgd' _
            · have q88 : lx_gi t M (p + 2) = 88 := by have z := c119; simp only [i_lt, i_le, i_eq, ne_eq, Int32.reduceToInt, b2_0, b2_1, decide_eq_true_eq, decide_eq_false_iff_not, Bool.not_eq_true, Bool.not_eq_false, e2] at z; omega
              rw [if_pos q88] at hgd'
              refine wq_l 123 d41_122 rfl rfl rfl rfl ?_
              refine wq_g 129 d41_123 (by decide) ?_
              refine wq_s 131 d41_129 rfl rfl (Nat.le_of_ble_eq_true rfl) rfl rfl ?_
              refine wq_l 132 d41_131 rfl rfl rfl rfl ?_
              refine wq_k 134 43 d41_132 (by decide) rfl ?_
              refine wq_l 135 d41_134 rfl rfl rfl rfl ?_
              refine wq_k 138 256 d41_135 (by decide) rfl ?_
              refine wq_l 140 d41_138 rfl rfl rfl rfl ?_
              refine wq_a 141 d41_140 rfl rfl ?_
              refine wq_l 142 d41_141 rfl rfl rfl rfl ?_
              refine wq_gl (ci := 2) (j := 8) 145 d41_142 rfl rfl rfl rfl ?_
              rw [ls_8]
              refine wq_a 146 d41_145 rfl rfl ?_
              refine wq_a 147 d41_146 rfl rfl ?_
              rw [har2.2, lN_i, hmV, show (256 : Int32) = nI 256 from rfl, pk_mul, nI_add]
              refine wq_v 150 [_, _, _] d41_147 rfl rfl m30 rfl rfl (Nat.le_of_ble_eq_true rfl) rfl (sp30 h5 hc ?_)
              refine wq_k 151 1 d41_150 (by decide) rfl ?_
              refine wq_ri d41_151 (rfl) ?_
              exact hgd' _
          · -- pc 109
            have hb : ¬ (lx_kn t M p ∧ e ≠ p + 3 ∧ V ≤ (if lx_gi t M (p + 2) = 88 then 255 else 63) ∧ lx_np (lx_i t M e) = false) := by
              rintro ⟨h1, h2, h3, h4⟩
              first
                | (rcases hk with ⟨h, _⟩ | ⟨_, h⟩; (rw [h] at c60; exact absurd c60 (by decide)); exact absurd h1 h)
                | (have z := c69; simp only [i_lt, i_le, i_eq, ne_eq, Int32.reduceToInt, b2_0, b2_1, decide_eq_true_eq, decide_eq_false_iff_not, Bool.not_eq_true, Bool.not_eq_false, eD] at z; omega)
                | (have q88 : ¬ lx_gi t M (p + 2) = 88 := by have z := c79; simp only [i_lt, i_le, i_eq, ne_eq, Int32.reduceToInt, b2_0, b2_1, decide_eq_true_eq, decide_eq_false_iff_not, Bool.not_eq_true, Bool.not_eq_false, e2] at z; omega
                   rw [if_neg q88] at h3; have z := c92; simp only [lc_gt, ew, el2, gt_iff_lt] at z; omega)
                | (have q88 : lx_gi t M (p + 2) = 88 := by have z := c79; simp only [i_lt, i_le, i_eq, ne_eq, Int32.reduceToInt, b2_0, b2_1, decide_eq_true_eq, decide_eq_false_iff_not, Bool.not_eq_true, Bool.not_eq_false, e2] at z; omega
                   rw [if_pos q88] at h3; have z := c92; simp only [lc_gt, ew, el1, gt_iff_lt] at z; omega)
                | (have z := c106; simp only [i_lt, i_le, i_eq, ne_eq, Int32.reduceToInt, b2_0, b2_1, decide_eq_true_eq, decide_eq_false_iff_not, Bool.not_eq_true, Bool.not_eq_false, e0] at z; rw [h4] at z; exact absurd rfl z)
                | (have z := c106; simp only [i_lt, i_le, i_eq, ne_eq, Int32.reduceToInt, b2_0, b2_1, decide_eq_true_eq, decide_eq_false_iff_not, Bool.not_eq_true, Bool.not_eq_false, e0] at z; rw [h4] at z; cases z)
            refine wq_l 110 d41_109 rfl rfl rfl rfl ?_
            refine wq_k 111 5 d41_110 (by decide) rfl ?_
            refine wq_l 112 d41_111 rfl rfl rfl rfl ?_
            refine wq_v 115 [_, _] d41_112 rfl rfl m29 rfl rfl (Nat.le_of_ble_eq_true rfl) rfl (sp29 h5 hc ?_)
            refine wq_ri d41_115 (rfl) ?_
            exact hbad hb _ _
theorem sp41 {d : Nat} {σ : pm_S} {Q : Option Value → pm_S → Prop} {t : Nat → Nat} {M c : Nat} {p : Nat} {a : Int64} (hT : lx_T σ t M) (h5 : σ.1 2 5 = nI c) (hc : c < 8193) (hp : p < M) (hQ : lx_Q Q σ c p (lx_pla t M p)) : pm_call pm_Y0 (d + 4) 41 [.ref 2] (ls σ p a) Q := by
  have hT' := hT
  obtain ⟨hL, hM, hch, ht⟩ := hT'
  have e1 := lx_gci (M := M) ht (p + 1)
  have e2 := lx_gci (M := M) ht (p + 2)
  have har := lx_ar_a (lx_gi t M (p + 1))
  refine wq_m m41 (Nat.le_of_ble_eq_true rfl) (by decide) rfl ?_
  refine wq_l 1 d41_0 rfl rfl rfl rfl ?_
  refine wq_gi (ci := 2) (j := 7) 4 d41_1 rfl rfl rfl rfl ?_
  rw [ls_7]
  refine wq_s 5 d41_4 rfl rfl (Nat.le_of_ble_eq_true rfl) rfl rfl ?_
  refine wq_l 6 d41_5 rfl rfl rfl rfl ?_
  refine wq_l 7 d41_6 rfl rfl rfl rfl ?_
  refine wq_k 8 1 d41_7 (by decide) rfl ?_
  refine wq_a 9 d41_8 rfl rfl ?_
  rw [show nI p + 1 = nI (p + 1) from (nI_succ p).symm]
  refine wq_v 12 [_] d41_9 rfl rfl m36 rfl rfl (Nat.le_of_ble_eq_true rfl) rfl (sp36 (ls_T hT) (by omega) ?_)
  refine wq_vs 15 [_] d41_12 rfl rfl m42 rfl (Nat.le_of_ble_eq_true rfl) rfl (sp42 ?_)
  rw [e1]
  refine wq_s 16 d41_15 rfl rfl (Nat.le_of_ble_eq_true rfl) rfl rfl ?_
  refine wq_l 17 d41_16 rfl rfl rfl rfl ?_
  refine wq_l 18 d41_17 rfl rfl rfl rfl ?_
  refine wq_k 19 2 d41_18 (by decide) rfl ?_
  refine wq_a 20 d41_19 rfl rfl ?_
  rw [show nI p + 2 = nI (p + 2) from nI_add p 2]
  refine wq_v 23 [_] d41_20 rfl rfl m36 rfl rfl (Nat.le_of_ble_eq_true rfl) rfl (sp36 (ls_T hT) (by omega) ?_)
  refine wq_s 24 d41_23 rfl rfl (Nat.le_of_ble_eq_true rfl) rfl rfl ?_
  refine wq_l 25 d41_24 rfl rfl rfl rfl ?_
  refine wq_k 26 (-1) d41_25 (by decide) rfl ?_
  refine wq_b 45 29 d41_26 rfl (by decide) rfl (fun c26 => ?_) (fun c26 => ?_)
  · -- pc 45
    refine wq_k 46 0 d41_45 (by decide) rfl ?_
    refine lx_p46 hT h5 hc hp (by
      unfold lx_kn
      first
        | (left; refine ⟨rfl, ?_, ?_⟩
           · rcases har with ⟨_, h⟩ | ⟨h, _⟩
             · exact absurd h c26
             · omega
           · first | (left; have z := c32; simp only [i_lt, i_le, i_eq, ne_eq, Int32.reduceToInt, b2_0, b2_1, decide_eq_true_eq, decide_eq_false_iff_not, Bool.not_eq_true, Bool.not_eq_false, e2] at z; omega) | (right; have z := c38; simp only [i_lt, i_le, i_eq, ne_eq, Int32.reduceToInt, b2_0, b2_1, decide_eq_true_eq, decide_eq_false_iff_not, Bool.not_eq_true, Bool.not_eq_false, e2] at z; omega))
        | (right; refine ⟨rfl, fun z => ?_⟩
           first
             | (rcases har with ⟨h, _⟩ | ⟨_, h⟩
                · exact z.1 h
                · rw [h] at c26; have c := nI_toInt (n := lx_area (lx_gi t M (p + 1))) (by omega); rw [c26, show ((-1 : Int32)).toInt = -1 from rfl] at c; omega)
             | (have z1 := c32; have z2 := c38; simp only [i_lt, i_le, i_eq, ne_eq, Int32.reduceToInt, b2_0, b2_1, decide_eq_true_eq, decide_eq_false_iff_not, Bool.not_eq_true, Bool.not_eq_false, e2] at z1 z2; omega))) hQ
  · -- pc 29
    refine wq_l 30 d41_29 rfl rfl rfl rfl ?_
    refine wq_k 32 88 d41_30 (by decide) rfl ?_
    refine wq_b 41 35 d41_32 rfl (by decide) rfl (fun c32 => ?_) (fun c32 => ?_)
    · -- pc 41
      refine wq_k 42 1 d41_41 (by decide) rfl ?_
      refine wq_g 46 d41_42 (by decide) ?_
      refine lx_p46 hT h5 hc hp (by
        unfold lx_kn
        first
          | (left; refine ⟨rfl, ?_, ?_⟩
             · rcases har with ⟨_, h⟩ | ⟨h, _⟩
               · exact absurd h c26
               · omega
             · first | (left; have z := c32; simp only [i_lt, i_le, i_eq, ne_eq, Int32.reduceToInt, b2_0, b2_1, decide_eq_true_eq, decide_eq_false_iff_not, Bool.not_eq_true, Bool.not_eq_false, e2] at z; omega) | (right; have z := c38; simp only [i_lt, i_le, i_eq, ne_eq, Int32.reduceToInt, b2_0, b2_1, decide_eq_true_eq, decide_eq_false_iff_not, Bool.not_eq_true, Bool.not_eq_false, e2] at z; omega))
          | (right; refine ⟨rfl, fun z => ?_⟩
             first
               | (rcases har with ⟨h, _⟩ | ⟨_, h⟩
                  · exact z.1 h
                  · rw [h] at c26; have c := nI_toInt (n := lx_area (lx_gi t M (p + 1))) (by omega); rw [c26, show ((-1 : Int32)).toInt = -1 from rfl] at c; omega)
               | (have z1 := c32; have z2 := c38; simp only [i_lt, i_le, i_eq, ne_eq, Int32.reduceToInt, b2_0, b2_1, decide_eq_true_eq, decide_eq_false_iff_not, Bool.not_eq_true, Bool.not_eq_false, e2] at z1 z2; omega))) hQ
    · -- pc 35
      refine wq_l 36 d41_35 rfl rfl rfl rfl ?_
      refine wq_k 38 87 d41_36 (by decide) rfl ?_
      refine wq_b 45 41 d41_38 rfl (by decide) rfl (fun c38 => ?_) (fun c38 => ?_)
      · -- pc 45
        refine wq_k 46 0 d41_45 (by decide) rfl ?_
        refine lx_p46 hT h5 hc hp (by
          unfold lx_kn
          first
            | (left; refine ⟨rfl, ?_, ?_⟩
               · rcases har with ⟨_, h⟩ | ⟨h, _⟩
                 · exact absurd h c26
                 · omega
               · first | (left; have z := c32; simp only [i_lt, i_le, i_eq, ne_eq, Int32.reduceToInt, b2_0, b2_1, decide_eq_true_eq, decide_eq_false_iff_not, Bool.not_eq_true, Bool.not_eq_false, e2] at z; omega) | (right; have z := c38; simp only [i_lt, i_le, i_eq, ne_eq, Int32.reduceToInt, b2_0, b2_1, decide_eq_true_eq, decide_eq_false_iff_not, Bool.not_eq_true, Bool.not_eq_false, e2] at z; omega))
            | (right; refine ⟨rfl, fun z => ?_⟩
               first
                 | (rcases har with ⟨h, _⟩ | ⟨_, h⟩
                    · exact z.1 h
                    · rw [h] at c26; have c := nI_toInt (n := lx_area (lx_gi t M (p + 1))) (by omega); rw [c26, show ((-1 : Int32)).toInt = -1 from rfl] at c; omega)
                 | (have z1 := c32; have z2 := c38; simp only [i_lt, i_le, i_eq, ne_eq, Int32.reduceToInt, b2_0, b2_1, decide_eq_true_eq, decide_eq_false_iff_not, Bool.not_eq_true, Bool.not_eq_false, e2] at z1 z2; omega))) hQ
      · -- pc 41
        refine wq_k 42 1 d41_41 (by decide) rfl ?_
        refine wq_g 46 d41_42 (by decide) ?_
        refine lx_p46 hT h5 hc hp (by
          unfold lx_kn
          first
            | (left; refine ⟨rfl, ?_, ?_⟩
               · rcases har with ⟨_, h⟩ | ⟨h, _⟩
                 · exact absurd h c26
                 · omega
               · first | (left; have z := c32; simp only [i_lt, i_le, i_eq, ne_eq, Int32.reduceToInt, b2_0, b2_1, decide_eq_true_eq, decide_eq_false_iff_not, Bool.not_eq_true, Bool.not_eq_false, e2] at z; omega) | (right; have z := c38; simp only [i_lt, i_le, i_eq, ne_eq, Int32.reduceToInt, b2_0, b2_1, decide_eq_true_eq, decide_eq_false_iff_not, Bool.not_eq_true, Bool.not_eq_false, e2] at z; omega))
            | (right; refine ⟨rfl, fun z => ?_⟩
               first
                 | (rcases har with ⟨h, _⟩ | ⟨_, h⟩
                    · exact z.1 h
                    · rw [h] at c26; have c := nI_toInt (n := lx_area (lx_gi t M (p + 1))) (by omega); rw [c26, show ((-1 : Int32)).toInt = -1 from rfl] at c; omega)
                 | (have z1 := c32; have z2 := c38; simp only [i_lt, i_le, i_eq, ne_eq, Int32.reduceToInt, b2_0, b2_1, decide_eq_true_eq, decide_eq_false_iff_not, Bool.not_eq_true, Bool.not_eq_false, e2] at z1 z2; omega))) hQ
