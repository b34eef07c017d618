theorem d306_0 : decode prog_14_method_80_code 0 = .ok (.iload_n 1, 1) := by decide +kernel
theorem d306_1 : decode prog_14_method_80_code 1 = .ok (.ifCond .le 7, 3) := by decide +kernel
theorem d306_4 : decode prog_14_method_80_code 4 = .ok (.iconst 1, 1) := by decide +kernel
theorem d306_5 : decode prog_14_method_80_code 5 = .ok (.goto 4, 3) := by decide +kernel
theorem d306_8 : decode prog_14_method_80_code 8 = .ok (.iconst 0, 1) := by decide +kernel
theorem d306_9 : decode prog_14_method_80_code 9 = .ok (.ireturn, 1) := by decide +kernel
theorem m306 : pm_m 306 = some (⟨"TypeRulesModel", "isNumber", "(I)Z"⟩, prog_14_method_80_code, 2, (some FieldType.boolean), 10, 1, 11) := rfl
theorem d290_0 : decode prog_14_method_81_code 0 = .ok (.iload_n 0, 1) := by decide +kernel
theorem d290_1 : decode prog_14_method_81_code 1 = .ok (.iload_n 1, 1) := by decide +kernel
theorem d290_2 : decode prog_14_method_81_code 2 = .ok (.if_icmp .eq 13, 3) := by decide +kernel
theorem d290_5 : decode prog_14_method_81_code 5 = .ok (.iload_n 0, 1) := by decide +kernel
theorem d290_6 : decode prog_14_method_81_code 6 = .ok (.iconst 1, 1) := by decide +kernel
theorem d290_7 : decode prog_14_method_81_code 7 = .ok (.if_icmp .ne 12, 3) := by decide +kernel
theorem d290_10 : decode prog_14_method_81_code 10 = .ok (.iload_n 1, 1) := by decide +kernel
theorem d290_11 : decode prog_14_method_81_code 11 = .ok (.iconst 2, 1) := by decide +kernel
theorem d290_12 : decode prog_14_method_81_code 12 = .ok (.if_icmp .ne 7, 3) := by decide +kernel
theorem d290_15 : decode prog_14_method_81_code 15 = .ok (.iconst 1, 1) := by decide +kernel
theorem d290_16 : decode prog_14_method_81_code 16 = .ok (.goto 4, 3) := by decide +kernel
theorem d290_19 : decode prog_14_method_81_code 19 = .ok (.iconst 0, 1) := by decide +kernel
theorem d290_20 : decode prog_14_method_81_code 20 = .ok (.ireturn, 1) := by decide +kernel
theorem m290 : pm_m 290 = some (⟨"TypeRulesModel", "fits", "(II)Z"⟩, prog_14_method_81_code, 2, (some FieldType.boolean), 10, 2, 0) := rfl
theorem d311_0 : decode prog_14_method_97_code 0 = .ok (.iload_n 0, 1) := by decide +kernel
theorem d311_1 : decode prog_14_method_97_code 1 = .ok (.iload_n 1, 1) := by decide +kernel
theorem d311_2 : decode prog_14_method_97_code 2 = .ok (.if_icmp .le 7, 3) := by decide +kernel
theorem d311_5 : decode prog_14_method_97_code 5 = .ok (.iload_n 0, 1) := by decide +kernel
theorem d311_6 : decode prog_14_method_97_code 6 = .ok (.goto 4, 3) := by decide +kernel
theorem d311_9 : decode prog_14_method_97_code 9 = .ok (.iload_n 1, 1) := by decide +kernel
theorem d311_10 : decode prog_14_method_97_code 10 = .ok (.ireturn, 1) := by decide +kernel
theorem m311 : pm_m 311 = some (⟨"TypeRulesModel", "wider", "(II)I"⟩, prog_14_method_97_code, 2, (some FieldType.int), 10, 2, 0) := rfl
theorem d309_0 : decode prog_14_method_96_code 0 = .ok (.iload_n 0, 1) := by decide +kernel
theorem d309_1 : decode prog_14_method_96_code 1 = .ok (.bipush 100, 2) := by decide +kernel
theorem d309_3 : decode prog_14_method_96_code 3 = .ok (.if_icmp .eq 9, 3) := by decide +kernel
theorem d309_6 : decode prog_14_method_96_code 6 = .ok (.iload_n 0, 1) := by decide +kernel
theorem d309_7 : decode prog_14_method_96_code 7 = .ok (.bipush 106, 2) := by decide +kernel
theorem d309_9 : decode prog_14_method_96_code 9 = .ok (.if_icmp .le 7, 3) := by decide +kernel
theorem d309_12 : decode prog_14_method_96_code 12 = .ok (.iconst 1, 1) := by decide +kernel
theorem d309_13 : decode prog_14_method_96_code 13 = .ok (.goto 20, 3) := by decide +kernel
theorem d309_16 : decode prog_14_method_96_code 16 = .ok (.iload_n 0, 1) := by decide +kernel
theorem d309_17 : decode prog_14_method_96_code 17 = .ok (.bipush 103, 2) := by decide +kernel
theorem d309_19 : decode prog_14_method_96_code 19 = .ok (.if_icmp .eq 9, 3) := by decide +kernel
theorem d309_22 : decode prog_14_method_96_code 22 = .ok (.iload_n 0, 1) := by decide +kernel
theorem d309_23 : decode prog_14_method_96_code 23 = .ok (.bipush 104, 2) := by decide +kernel
theorem d309_25 : decode prog_14_method_96_code 25 = .ok (.if_icmp .ne 7, 3) := by decide +kernel
theorem d309_28 : decode prog_14_method_96_code 28 = .ok (.iconst 3, 1) := by decide +kernel
theorem d309_29 : decode prog_14_method_96_code 29 = .ok (.goto 4, 3) := by decide +kernel
theorem d309_32 : decode prog_14_method_96_code 32 = .ok (.iconst 2, 1) := by decide +kernel
theorem d309_33 : decode prog_14_method_96_code 33 = .ok (.ireturn, 1) := by decide +kernel
theorem m309 : pm_m 309 = some (⟨"TypeRulesModel", "arguments", "(I)I"⟩, prog_14_method_96_code, 1, (some FieldType.int), 10, 1, 0) := rfl
theorem d280_0 : decode prog_14_method_89_code 0 = .ok (.iload_n 0, 1) := by decide +kernel
theorem d280_1 : decode prog_14_method_89_code 1 = .ok (.bipush 31, 2) := by decide +kernel
theorem d280_3 : decode prog_14_method_89_code 3 = .ok (.if_icmp .ne 7, 3) := by decide +kernel
theorem d280_6 : decode prog_14_method_89_code 6 = .ok (.iconst 1, 1) := by decide +kernel
theorem d280_7 : decode prog_14_method_89_code 7 = .ok (.goto 4, 3) := by decide +kernel
theorem d280_10 : decode prog_14_method_89_code 10 = .ok (.iconst 0, 1) := by decide +kernel
theorem d280_11 : decode prog_14_method_89_code 11 = .ok (.iload_n 2, 1) := by decide +kernel
theorem d280_12 : decode prog_14_method_89_code 12 = .ok (.ifCond .ne 7, 3) := by decide +kernel
theorem d280_15 : decode prog_14_method_89_code 15 = .ok (.iconst 1, 1) := by decide +kernel
theorem d280_16 : decode prog_14_method_89_code 16 = .ok (.goto 4, 3) := by decide +kernel
theorem d280_19 : decode prog_14_method_89_code 19 = .ok (.iconst 0, 1) := by decide +kernel
theorem d280_20 : decode prog_14_method_89_code 20 = .ok (.if_icmp .ne 22, 3) := by decide +kernel
theorem d280_23 : decode prog_14_method_89_code 23 = .ok (.iload_n 2, 1) := by decide +kernel
theorem d280_24 : decode prog_14_method_89_code 24 = .ok (.iconst 1, 1) := by decide +kernel
theorem d280_25 : decode prog_14_method_89_code 25 = .ok (.if_icmp .ne 21, 3) := by decide +kernel
theorem d280_28 : decode prog_14_method_89_code 28 = .ok (.iload_n 1, 1) := by decide +kernel
theorem d280_29 : decode prog_14_method_89_code 29 = .ok (.sipush (-32768), 3) := by decide +kernel
theorem d280_32 : decode prog_14_method_89_code 32 = .ok (.if_icmp .lt 10, 3) := by decide +kernel
theorem d280_35 : decode prog_14_method_89_code 35 = .ok (.iload_n 1, 1) := by decide +kernel
theorem d280_36 : decode prog_14_method_89_code 36 = .ok (.sipush 32767, 3) := by decide +kernel
theorem d280_39 : decode prog_14_method_89_code 39 = .ok (.if_icmp .le 7, 3) := by decide +kernel
theorem d280_42 : decode prog_14_method_89_code 42 = .ok (.iconst 1, 1) := by decide +kernel
theorem d280_43 : decode prog_14_method_89_code 43 = .ok (.goto 4, 3) := by decide +kernel
theorem d280_46 : decode prog_14_method_89_code 46 = .ok (.iconst 0, 1) := by decide +kernel
theorem d280_47 : decode prog_14_method_89_code 47 = .ok (.ireturn, 1) := by decide +kernel
theorem m280 : pm_m 280 = some (⟨"TypeRulesModel", "isBad", "(III)Z"⟩, prog_14_method_89_code, 3, (some FieldType.boolean), 10, 3, 0) := rfl
theorem d164_0 : decode prog_3_method_4_code 0 = .ok (.iload_n 1, 1) := by decide +kernel
theorem d164_1 : decode prog_3_method_4_code 1 = .ok (.iconst 1, 1) := by decide +kernel
theorem d164_2 : decode prog_3_method_4_code 2 = .ok (.if_icmp .ne 17, 3) := by decide +kernel
theorem d164_5 : decode prog_3_method_4_code 5 = .ok (.iload_n 0, 1) := by decide +kernel
theorem d164_6 : decode prog_3_method_4_code 6 = .ok (.sipush (-32768), 3) := by decide +kernel
theorem d164_9 : decode prog_3_method_4_code 9 = .ok (.if_icmp .lt 14, 3) := by decide +kernel
theorem d164_12 : decode prog_3_method_4_code 12 = .ok (.iload_n 0, 1) := by decide +kernel
theorem d164_13 : decode prog_3_method_4_code 13 = .ok (.sipush 32767, 3) := by decide +kernel
theorem d164_16 : decode prog_3_method_4_code 16 = .ok (.if_icmp .gt 7, 3) := by decide +kernel
theorem d164_19 : decode prog_3_method_4_code 19 = .ok (.iconst 1, 1) := by decide +kernel
theorem d164_20 : decode prog_3_method_4_code 20 = .ok (.goto 4, 3) := by decide +kernel
theorem d164_23 : decode prog_3_method_4_code 23 = .ok (.iconst 0, 1) := by decide +kernel
theorem d164_24 : decode prog_3_method_4_code 24 = .ok (.ireturn, 1) := by decide +kernel
theorem m164 : pm_m 164 = some (⟨"TypeRules$Expressions", "isInRange", "(II)Z"⟩, prog_3_method_4_code, 2, (some FieldType.boolean), 8, 2, 0) := rfl
theorem d168_0 : decode prog_3_method_2_code 0 = .ok (.iload_n 0, 1) := by decide +kernel
theorem d168_1 : decode prog_3_method_2_code 1 = .ok (.iconst 1, 1) := by decide +kernel
theorem d168_2 : decode prog_3_method_2_code 2 = .ok (.if_icmp .eq 8, 3) := by decide +kernel
theorem d168_5 : decode prog_3_method_2_code 5 = .ok (.iload_n 0, 1) := by decide +kernel
theorem d168_6 : decode prog_3_method_2_code 6 = .ok (.iconst 2, 1) := by decide +kernel
theorem d168_7 : decode prog_3_method_2_code 7 = .ok (.if_icmp .ne 7, 3) := by decide +kernel
theorem d168_10 : decode prog_3_method_2_code 10 = .ok (.iconst 1, 1) := by decide +kernel
theorem d168_11 : decode prog_3_method_2_code 11 = .ok (.goto 4, 3) := by decide +kernel
theorem d168_14 : decode prog_3_method_2_code 14 = .ok (.iconst 0, 1) := by decide +kernel
theorem d168_15 : decode prog_3_method_2_code 15 = .ok (.ireturn, 1) := by decide +kernel
theorem m168 : pm_m 168 = some (⟨"TypeRules$Expressions", "isNumber", "(I)Z"⟩, prog_3_method_2_code, 1, (some FieldType.boolean), 8, 1, 0) := rfl
theorem d173_0 : decode prog_3_method_3_code 0 = .ok (.iload_n 0, 1) := by decide +kernel
theorem d173_1 : decode prog_3_method_3_code 1 = .ok (.iload_n 1, 1) := by decide +kernel
theorem d173_2 : decode prog_3_method_3_code 2 = .ok (.if_icmp .eq 13, 3) := by decide +kernel
theorem d173_5 : decode prog_3_method_3_code 5 = .ok (.iload_n 0, 1) := by decide +kernel
theorem d173_6 : decode prog_3_method_3_code 6 = .ok (.iconst 1, 1) := by decide +kernel
theorem d173_7 : decode prog_3_method_3_code 7 = .ok (.if_icmp .ne 12, 3) := by decide +kernel
theorem d173_10 : decode prog_3_method_3_code 10 = .ok (.iload_n 1, 1) := by decide +kernel
theorem d173_11 : decode prog_3_method_3_code 11 = .ok (.iconst 2, 1) := by decide +kernel
theorem d173_12 : decode prog_3_method_3_code 12 = .ok (.if_icmp .ne 7, 3) := by decide +kernel
theorem d173_15 : decode prog_3_method_3_code 15 = .ok (.iconst 1, 1) := by decide +kernel
theorem d173_16 : decode prog_3_method_3_code 16 = .ok (.goto 4, 3) := by decide +kernel
theorem d173_19 : decode prog_3_method_3_code 19 = .ok (.iconst 0, 1) := by decide +kernel
theorem d173_20 : decode prog_3_method_3_code 20 = .ok (.ireturn, 1) := by decide +kernel
theorem m173 : pm_m 173 = some (⟨"TypeRules$Expressions", "fits", "(II)Z"⟩, prog_3_method_3_code, 2, (some FieldType.boolean), 8, 2, 0) := rfl
theorem d175_0 : decode prog_3_method_13_code 0 = .ok (.iload_n 0, 1) := by decide +kernel
theorem d175_1 : decode prog_3_method_13_code 1 = .ok (.iconst 1, 1) := by decide +kernel
theorem d175_2 : decode prog_3_method_13_code 2 = .ok (.if_icmp .lt 8, 3) := by decide +kernel
theorem d175_5 : decode prog_3_method_13_code 5 = .ok (.iload_n 1, 1) := by decide +kernel
theorem d175_6 : decode prog_3_method_13_code 6 = .ok (.iconst 1, 1) := by decide +kernel
theorem d175_7 : decode prog_3_method_13_code 7 = .ok (.if_icmp .ge 5, 3) := by decide +kernel
theorem d175_10 : decode prog_3_method_13_code 10 = .ok (.iconst (-1), 1) := by decide +kernel
theorem d175_11 : decode prog_3_method_13_code 11 = .ok (.ireturn, 1) := by decide +kernel
theorem d175_12 : decode prog_3_method_13_code 12 = .ok (.iload_n 0, 1) := by decide +kernel
theorem d175_13 : decode prog_3_method_13_code 13 = .ok (.iload_n 1, 1) := by decide +kernel
theorem d175_14 : decode prog_3_method_13_code 14 = .ok (.if_icmp .lt 7, 3) := by decide +kernel
theorem d175_17 : decode prog_3_method_13_code 17 = .ok (.iload_n 0, 1) := by decide +kernel
theorem d175_18 : decode prog_3_method_13_code 18 = .ok (.goto 4, 3) := by decide +kernel
theorem d175_21 : decode prog_3_method_13_code 21 = .ok (.iload_n 1, 1) := by decide +kernel
theorem d175_22 : decode prog_3_method_13_code 22 = .ok (.ireturn, 1) := by decide +kernel
theorem m175 : pm_m 175 = some (⟨"TypeRules$Expressions", "wider", "(II)I"⟩, prog_3_method_13_code, 2, (some FieldType.int), 8, 2, 0) := rfl
theorem d176_0 : decode prog_3_method_14_code 0 = .ok (.iload_n 0, 1) := by decide +kernel
theorem d176_1 : decode prog_3_method_14_code 1 = .ok (.ifCond .ne 11, 3) := by decide +kernel
theorem d176_4 : decode prog_3_method_14_code 4 = .ok (.iload_n 1, 1) := by decide +kernel
theorem d176_5 : decode prog_3_method_14_code 5 = .ok (.ifCond .ne 7, 3) := by decide +kernel
theorem d176_8 : decode prog_3_method_14_code 8 = .ok (.iconst 0, 1) := by decide +kernel
theorem d176_9 : decode prog_3_method_14_code 9 = .ok (.goto 8, 3) := by decide +kernel
theorem d176_12 : decode prog_3_method_14_code 12 = .ok (.iload_n 0, 1) := by decide +kernel
theorem d176_13 : decode prog_3_method_14_code 13 = .ok (.iload_n 1, 1) := by decide +kernel
theorem d176_14 : decode prog_3_method_14_code 14 = .ok (.invokestatic 134, 3) := by decide +kernel
theorem d176_17 : decode prog_3_method_14_code 17 = .ok (.ireturn, 1) := by decide +kernel
theorem m176 : pm_m 176 = some (⟨"TypeRules$Expressions", "common", "(II)I"⟩, prog_3_method_14_code, 2, (some FieldType.int), 8, 2, 0) := rfl
/-! small methods of both -/
theorem sp306 {d : Nat} {σ : pm_S} {Q : Option Value → pm_S → Prop} {x : Int32} (hQ : Q (some (.int (b2 (decide (0 < x.toInt))))) σ) : pm_call pm_Y0 (d + 1) 306 [.ref 10, .int x] σ Q := by
  have ht : (0 < x.toInt) → Q (some (.int 1)) σ := fun q => by rw [show (decide (0 < x.toInt)) = true from decide_eq_true q] at hQ; exact hQ
  have hf : ¬ (0 < x.toInt) → Q (some (.int 0)) σ := fun q => by rw [show (decide (0 < x.toInt)) = false from decide_eq_false q] at hQ; exact hQ
  clear hQ
  refine wq_m m306 (Nat.le_of_ble_eq_true rfl) (by decide) rfl ?_
  refine wq_l 1 d306_0 rfl rfl rfl rfl ?_
  refine wq_b 8 4 d306_1 rfl (by decide) rfl (fun c1 => ?_) (fun c1 => ?_)
  · -- pc 8
    refine wq_k 9 0 d306_8 (by decide) rfl ?_
    refine wq_ri d306_9 (rfl) ?_
    first | exact ht (by simp only [i_lt, i_le, i_eq, ne_eq, Int32.reduceToInt, b2_0, b2_1, decide_eq_true_eq, decide_eq_false_iff_not, Bool.not_eq_true, Bool.not_eq_false] at * <;> omega) | exact hf (by simp only [i_lt, i_le, i_eq, ne_eq, Int32.reduceToInt, b2_0, b2_1, decide_eq_true_eq, decide_eq_false_iff_not, Bool.not_eq_true, Bool.not_eq_false] at * <;> omega)
  · -- pc 4
    refine wq_k 5 1 d306_4 (by decide) rfl ?_
    refine wq_g 9 d306_5 (by decide) ?_
    refine wq_ri d306_9 (rfl) ?_
    first | exact ht (by simp only [i_lt, i_le, i_eq, ne_eq, Int32.reduceToInt, b2_0, b2_1, decide_eq_true_eq, decide_eq_false_iff_not, Bool.not_eq_true, Bool.not_eq_false] at * <;> omega) | exact hf (by simp only [i_lt, i_le, i_eq, ne_eq, Int32.reduceToInt, b2_0, b2_1, decide_eq_true_eq, decide_eq_false_iff_not, Bool.not_eq_true, Bool.not_eq_false] at * <;> omega)
theorem sp290 {d : Nat} {σ : pm_S} {Q : Option Value → pm_S → Prop} {a b : Int32} (hQ : Q (some (.int (b2 (rl_fits a b)))) σ) : pm_call pm_Y0 (d + 1) 290 [.int a, .int b] σ Q := by
  have ht : (a = b ∨ (a = 1 ∧ b = 2)) → Q (some (.int 1)) σ := fun q => by rw [show (rl_fits a b) = true from decide_eq_true q] at hQ; exact hQ
  have hf : ¬ (a = b ∨ (a = 1 ∧ b = 2)) → Q (some (.int 0)) σ := fun q => by rw [show (rl_fits a b) = false from decide_eq_false q] at hQ; exact hQ
  clear hQ
  refine wq_m m290 (Nat.le_of_ble_eq_true rfl) (by decide) rfl ?_
  refine wq_l 1 d290_0 rfl rfl rfl rfl ?_
  refine wq_l 2 d290_1 rfl rfl rfl rfl ?_
  refine wq_b 15 5 d290_2 rfl (by decide) rfl (fun c2 => ?_) (fun c2 => ?_)
  · -- pc 15
    refine wq_k 16 1 d290_15 (by decide) rfl ?_
    refine wq_g 20 d290_16 (by decide) ?_
    refine wq_ri d290_20 (rfl) ?_
    first | exact ht (by simp only [i_lt, i_le, i_eq, ne_eq, Int32.reduceToInt, b2_0, b2_1, decide_eq_true_eq, decide_eq_false_iff_not, Bool.not_eq_true, Bool.not_eq_false] at * <;> omega) | exact hf (by simp only [i_lt, i_le, i_eq, ne_eq, Int32.reduceToInt, b2_0, b2_1, decide_eq_true_eq, decide_eq_false_iff_not, Bool.not_eq_true, Bool.not_eq_false] at * <;> omega)
  · -- pc 5
    refine wq_l 6 d290_5 rfl rfl rfl rfl ?_
    refine wq_k 7 1 d290_6 (by decide) rfl ?_
    refine wq_b 19 10 d290_7 rfl (by decide) rfl (fun c7 => ?_) (fun c7 => ?_)
    · -- pc 19
      refine wq_k 20 0 d290_19 (by decide) rfl ?_
      refine wq_ri d290_20 (rfl) ?_
      first | exact ht (by simp only [i_lt, i_le, i_eq, ne_eq, Int32.reduceToInt, b2_0, b2_1, decide_eq_true_eq, decide_eq_false_iff_not, Bool.not_eq_true, Bool.not_eq_false] at * <;> omega) | exact hf (by simp only [i_lt, i_le, i_eq, ne_eq, Int32.reduceToInt, b2_0, b2_1, decide_eq_true_eq, decide_eq_false_iff_not, Bool.not_eq_true, Bool.not_eq_false] at * <;> omega)
    · -- pc 10
      refine wq_l 11 d290_10 rfl rfl rfl rfl ?_
      refine wq_k 12 2 d290_11 (by decide) rfl ?_
      refine wq_b 19 15 d290_12 rfl (by decide) rfl (fun c12 => ?_) (fun c12 => ?_)
      · -- pc 19
        refine wq_k 20 0 d290_19 (by decide) rfl ?_
        refine wq_ri d290_20 (rfl) ?_
        first | exact ht (by simp only [i_lt, i_le, i_eq, ne_eq, Int32.reduceToInt, b2_0, b2_1, decide_eq_true_eq, decide_eq_false_iff_not, Bool.not_eq_true, Bool.not_eq_false] at * <;> omega) | exact hf (by simp only [i_lt, i_le, i_eq, ne_eq, Int32.reduceToInt, b2_0, b2_1, decide_eq_true_eq, decide_eq_false_iff_not, Bool.not_eq_true, Bool.not_eq_false] at * <;> omega)
      · -- pc 15
        refine wq_k 16 1 d290_15 (by decide) rfl ?_
        refine wq_g 20 d290_16 (by decide) ?_
        refine wq_ri d290_20 (rfl) ?_
        first | exact ht (by simp only [i_lt, i_le, i_eq, ne_eq, Int32.reduceToInt, b2_0, b2_1, decide_eq_true_eq, decide_eq_false_iff_not, Bool.not_eq_true, Bool.not_eq_false] at * <;> omega) | exact hf (by simp only [i_lt, i_le, i_eq, ne_eq, Int32.reduceToInt, b2_0, b2_1, decide_eq_true_eq, decide_eq_false_iff_not, Bool.not_eq_true, Bool.not_eq_false] at * <;> omega)
theorem sp173 {d : Nat} {σ : pm_S} {Q : Option Value → pm_S → Prop} {a b : Int32} (hQ : Q (some (.int (b2 (rl_fits a b)))) σ) : pm_call pm_Y0 (d + 1) 173 [.int a, .int b] σ Q := by
  have ht : (a = b ∨ (a = 1 ∧ b = 2)) → Q (some (.int 1)) σ := fun q => by rw [show (rl_fits a b) = true from decide_eq_true q] at hQ; exact hQ
  have hf : ¬ (a = b ∨ (a = 1 ∧ b = 2)) → Q (some (.int 0)) σ := fun q => by rw [show (rl_fits a b) = false from decide_eq_false q] at hQ; exact hQ
  clear hQ
  refine wq_m m173 (Nat.le_of_ble_eq_true rfl) (by decide) rfl ?_
  refine wq_l 1 d173_0 rfl rfl rfl rfl ?_
  refine wq_l 2 d173_1 rfl rfl rfl rfl ?_
  refine wq_b 15 5 d173_2 rfl (by decide) rfl (fun c2 => ?_) (fun c2 => ?_)
  · -- pc 15
    refine wq_k 16 1 d173_15 (by decide) rfl ?_
    refine wq_g 20 d173_16 (by decide) ?_
    refine wq_ri d173_20 (rfl) ?_
    first | exact ht (by simp only [i_lt, i_le, i_eq, ne_eq, Int32.reduceToInt, b2_0, b2_1, decide_eq_true_eq, decide_eq_false_iff_not, Bool.not_eq_true, Bool.not_eq_false] at * <;> omega) | exact hf (by simp only [i_lt, i_le, i_eq, ne_eq, Int32.reduceToInt, b2_0, b2_1, decide_eq_true_eq, decide_eq_false_iff_not, Bool.not_eq_true, Bool.not_eq_false] at * <;> omega)
  · -- pc 5
    refine wq_l 6 d173_5 rfl rfl rfl rfl ?_
    refine wq_k 7 1 d173_6 (by decide) rfl ?_
    refine wq_b 19 10 d173_7 rfl (by decide) rfl (fun c7 => ?_) (fun c7 => ?_)
    · -- pc 19
      refine wq_k 20 0 d173_19 (by decide) rfl ?_
      refine wq_ri d173_20 (rfl) ?_
      first | exact ht (by simp only [i_lt, i_le, i_eq, ne_eq, Int32.reduceToInt, b2_0, b2_1, decide_eq_true_eq, decide_eq_false_iff_not, Bool.not_eq_true, Bool.not_eq_false] at * <;> omega) | exact hf (by simp only [i_lt, i_le, i_eq, ne_eq, Int32.reduceToInt, b2_0, b2_1, decide_eq_true_eq, decide_eq_false_iff_not, Bool.not_eq_true, Bool.not_eq_false] at * <;> omega)
    · -- pc 10
      refine wq_l 11 d173_10 rfl rfl rfl rfl ?_
      refine wq_k 12 2 d173_11 (by decide) rfl ?_
      refine wq_b 19 15 d173_12 rfl (by decide) rfl (fun c12 => ?_) (fun c12 => ?_)
      · -- pc 19
        refine wq_k 20 0 d173_19 (by decide) rfl ?_
        refine wq_ri d173_20 (rfl) ?_
        first | exact ht (by simp only [i_lt, i_le, i_eq, ne_eq, Int32.reduceToInt, b2_0, b2_1, decide_eq_true_eq, decide_eq_false_iff_not, Bool.not_eq_true, Bool.not_eq_false] at * <;> omega) | exact hf (by simp only [i_lt, i_le, i_eq, ne_eq, Int32.reduceToInt, b2_0, b2_1, decide_eq_true_eq, decide_eq_false_iff_not, Bool.not_eq_true, Bool.not_eq_false] at * <;> omega)
      · -- pc 15
        refine wq_k 16 1 d173_15 (by decide) rfl ?_
        refine wq_g 20 d173_16 (by decide) ?_
        refine wq_ri d173_20 (rfl) ?_
        first | exact ht (by simp only [i_lt, i_le, i_eq, ne_eq, Int32.reduceToInt, b2_0, b2_1, decide_eq_true_eq, decide_eq_false_iff_not, Bool.not_eq_true, Bool.not_eq_false] at * <;> omega) | exact hf (by simp only [i_lt, i_le, i_eq, ne_eq, Int32.reduceToInt, b2_0, b2_1, decide_eq_true_eq, decide_eq_false_iff_not, Bool.not_eq_true, Bool.not_eq_false] at * <;> omega)
theorem sp168 {d : Nat} {σ : pm_S} {Q : Option Value → pm_S → Prop} {x : Int32} (hQ : Q (some (.int (b2 (rl_num x)))) σ) : pm_call pm_Y0 (d + 1) 168 [.int x] σ Q := by
  have ht : (x = 1 ∨ x = 2) → Q (some (.int 1)) σ := fun q => by rw [show (rl_num x) = true from decide_eq_true q] at hQ; exact hQ
  have hf : ¬ (x = 1 ∨ x = 2) → Q (some (.int 0)) σ := fun q => by rw [show (rl_num x) = false from decide_eq_false q] at hQ; exact hQ
  clear hQ
  refine wq_m m168 (Nat.le_of_ble_eq_true rfl) (by decide) rfl ?_
  refine wq_l 1 d168_0 rfl rfl rfl rfl ?_
  refine wq_k 2 1 d168_1 (by decide) rfl ?_
  refine wq_b 10 5 d168_2 rfl (by decide) rfl (fun c2 => ?_) (fun c2 => ?_)
  · -- pc 10
    refine wq_k 11 1 d168_10 (by decide) rfl ?_
    refine wq_g 15 d168_11 (by decide) ?_
    refine wq_ri d168_15 (rfl) ?_
    first | exact ht (by simp only [i_lt, i_le, i_eq, ne_eq, Int32.reduceToInt, b2_0, b2_1, decide_eq_true_eq, decide_eq_false_iff_not, Bool.not_eq_true, Bool.not_eq_false] at * <;> omega) | exact hf (by simp only [i_lt, i_le, i_eq, ne_eq, Int32.reduceToInt, b2_0, b2_1, decide_eq_true_eq, decide_eq_false_iff_not, Bool.not_eq_true, Bool.not_eq_false] at * <;> omega)
  · -- pc 5
    refine wq_l 6 d168_5 rfl rfl rfl rfl ?_
    refine wq_k 7 2 d168_6 (by decide) rfl ?_
    refine wq_b 14 10 d168_7 rfl (by decide) rfl (fun c7 => ?_) (fun c7 => ?_)
    · -- pc 14
      refine wq_k 15 0 d168_14 (by decide) rfl ?_
      refine wq_ri d168_15 (rfl) ?_
      first | exact ht (by simp only [i_lt, i_le, i_eq, ne_eq, Int32.reduceToInt, b2_0, b2_1, decide_eq_true_eq, decide_eq_false_iff_not, Bool.not_eq_true, Bool.not_eq_false] at * <;> omega) | exact hf (by simp only [i_lt, i_le, i_eq, ne_eq, Int32.reduceToInt, b2_0, b2_1, decide_eq_true_eq, decide_eq_false_iff_not, Bool.not_eq_true, Bool.not_eq_false] at * <;> omega)
    · -- pc 10
      refine wq_k 11 1 d168_10 (by decide) rfl ?_
      refine wq_g 15 d168_11 (by decide) ?_
      refine wq_ri d168_15 (rfl) ?_
      first | exact ht (by simp only [i_lt, i_le, i_eq, ne_eq, Int32.reduceToInt, b2_0, b2_1, decide_eq_true_eq, decide_eq_false_iff_not, Bool.not_eq_true, Bool.not_eq_false] at * <;> omega) | exact hf (by simp only [i_lt, i_le, i_eq, ne_eq, Int32.reduceToInt, b2_0, b2_1, decide_eq_true_eq, decide_eq_false_iff_not, Bool.not_eq_true, Bool.not_eq_false] at * <;> omega)
theorem sp164 {d : Nat} {σ : pm_S} {Q : Option Value → pm_S → Prop} {v t : Int32} (hQ : Q (some (.int (b2 (decide (¬ (t = 1 ∧ (v.toInt < -32768 ∨ 32767 < v.toInt))))))) σ) : pm_call pm_Y0 (d + 1) 164 [.int v, .int t] σ Q := by
  have ht : (¬ (t = 1 ∧ (v.toInt < -32768 ∨ 32767 < v.toInt))) → Q (some (.int 1)) σ := fun q => by rw [show (decide (¬ (t = 1 ∧ (v.toInt < -32768 ∨ 32767 < v.toInt)))) = true from decide_eq_true q] at hQ; exact hQ
  have hf : ¬ (¬ (t = 1 ∧ (v.toInt < -32768 ∨ 32767 < v.toInt))) → Q (some (.int 0)) σ := fun q => by rw [show (decide (¬ (t = 1 ∧ (v.toInt < -32768 ∨ 32767 < v.toInt)))) = false from decide_eq_false q] at hQ; exact hQ
  clear hQ
  refine wq_m m164 (Nat.le_of_ble_eq_true rfl) (by decide) rfl ?_
  refine wq_l 1 d164_0 rfl rfl rfl rfl ?_
  refine wq_k 2 1 d164_1 (by decide) rfl ?_
  refine wq_b 19 5 d164_2 rfl (by decide) rfl (fun c2 => ?_) (fun c2 => ?_)
  · -- pc 19
    refine wq_k 20 1 d164_19 (by decide) rfl ?_
    refine wq_g 24 d164_20 (by decide) ?_
    refine wq_ri d164_24 (rfl) ?_
    first | exact ht (by simp only [i_lt, i_le, i_eq, ne_eq, Int32.reduceToInt, b2_0, b2_1, decide_eq_true_eq, decide_eq_false_iff_not, Bool.not_eq_true, Bool.not_eq_false] at * <;> omega) | exact hf (by simp only [i_lt, i_le, i_eq, ne_eq, Int32.reduceToInt, b2_0, b2_1, decide_eq_true_eq, decide_eq_false_iff_not, Bool.not_eq_true, Bool.not_eq_false] at * <;> omega)
  · -- pc 5
    refine wq_l 6 d164_5 rfl rfl rfl rfl ?_
    refine wq_k 9 (-32768) d164_6 (by decide) rfl ?_
    refine wq_b 23 12 d164_9 rfl (by decide) rfl (fun c9 => ?_) (fun c9 => ?_)
    · -- pc 23
      refine wq_k 24 0 d164_23 (by decide) rfl ?_
      refine wq_ri d164_24 (rfl) ?_
      first | exact ht (by simp only [i_lt, i_le, i_eq, ne_eq, Int32.reduceToInt, b2_0, b2_1, decide_eq_true_eq, decide_eq_false_iff_not, Bool.not_eq_true, Bool.not_eq_false] at * <;> omega) | exact hf (by simp only [i_lt, i_le, i_eq, ne_eq, Int32.reduceToInt, b2_0, b2_1, decide_eq_true_eq, decide_eq_false_iff_not, Bool.not_eq_true, Bool.not_eq_false] at * <;> omega)
    · -- pc 12
      refine wq_l 13 d164_12 rfl rfl rfl rfl ?_
      refine wq_k 16 32767 d164_13 (by decide) rfl ?_
      refine wq_b 23 19 d164_16 rfl (by decide) rfl (fun c16 => ?_) (fun c16 => ?_)
      · -- pc 23
        refine wq_k 24 0 d164_23 (by decide) rfl ?_
        refine wq_ri d164_24 (rfl) ?_
        first | exact ht (by simp only [i_lt, i_le, i_eq, ne_eq, Int32.reduceToInt, b2_0, b2_1, decide_eq_true_eq, decide_eq_false_iff_not, Bool.not_eq_true, Bool.not_eq_false] at * <;> omega) | exact hf (by simp only [i_lt, i_le, i_eq, ne_eq, Int32.reduceToInt, b2_0, b2_1, decide_eq_true_eq, decide_eq_false_iff_not, Bool.not_eq_true, Bool.not_eq_false] at * <;> omega)
      · -- pc 19
        refine wq_k 20 1 d164_19 (by decide) rfl ?_
        refine wq_g 24 d164_20 (by decide) ?_
        refine wq_ri d164_24 (rfl) ?_
        first | exact ht (by simp only [i_lt, i_le, i_eq, ne_eq, Int32.reduceToInt, b2_0, b2_1, decide_eq_true_eq, decide_eq_false_iff_not, Bool.not_eq_true, Bool.not_eq_false] at * <;> omega) | exact hf (by simp only [i_lt, i_le, i_eq, ne_eq, Int32.reduceToInt, b2_0, b2_1, decide_eq_true_eq, decide_eq_false_iff_not, Bool.not_eq_true, Bool.not_eq_false] at * <;> omega)
theorem sp311 {d : Nat} {σ : pm_S} {Q : Option Value → pm_S → Prop} {a b : Int32} (hQ : Q (some (.int (if b < a then a else b))) σ) : pm_call pm_Y0 (d + 1) 311 [.int a, .int b] σ Q := by
  refine wq_m m311 (Nat.le_of_ble_eq_true rfl) (by decide) rfl ?_
  refine wq_l 1 d311_0 rfl rfl rfl rfl ?_
  refine wq_l 2 d311_1 rfl rfl rfl rfl ?_
  refine wq_b 9 5 d311_2 rfl (by decide) rfl (fun c2 => ?_) (fun c2 => ?_)
  · -- pc 9
    refine wq_l 10 d311_9 rfl rfl rfl rfl ?_
    refine wq_ri d311_10 (rfl) ?_
    first | (rw [if_pos (by simp only [i_lt, i_le, i_eq, ne_eq, Int32.reduceToInt, b2_0, b2_1, decide_eq_true_eq, decide_eq_false_iff_not, Bool.not_eq_true, Bool.not_eq_false] at * <;> omega)] at hQ; exact hQ) | (rw [if_neg (by simp only [i_lt, i_le, i_eq, ne_eq, Int32.reduceToInt, b2_0, b2_1, decide_eq_true_eq, decide_eq_false_iff_not, Bool.not_eq_true, Bool.not_eq_false] at * <;> omega)] at hQ; exact hQ)
  · -- pc 5
    refine wq_l 6 d311_5 rfl rfl rfl rfl ?_
    refine wq_g 10 d311_6 (by decide) ?_
    refine wq_ri d311_10 (rfl) ?_
    first | (rw [if_pos (by simp only [i_lt, i_le, i_eq, ne_eq, Int32.reduceToInt, b2_0, b2_1, decide_eq_true_eq, decide_eq_false_iff_not, Bool.not_eq_true, Bool.not_eq_false] at * <;> omega)] at hQ; exact hQ) | (rw [if_neg (by simp only [i_lt, i_le, i_eq, ne_eq, Int32.reduceToInt, b2_0, b2_1, decide_eq_true_eq, decide_eq_false_iff_not, Bool.not_eq_true, Bool.not_eq_false] at * <;> omega)] at hQ; exact hQ)
theorem sp309 {d : Nat} {σ : pm_S} {Q : Option Value → pm_S → Prop} {f : Nat} (hf : f ≤ 9) (hQ : Q (some (.int (nI (rl_ops f)))) σ) : pm_call pm_Y0 (d + 1) 309 [.int (nI (100 + f))] σ Q := by
  have ef := nI_toInt (n := 100 + f) (by omega)
  unfold rl_ops at hQ
  refine wq_m m309 (Nat.le_of_ble_eq_true rfl) (by decide) rfl ?_
  refine wq_l 1 d309_0 rfl rfl rfl rfl ?_
  refine wq_k 3 100 d309_1 (by decide) rfl ?_
  refine wq_b 12 6 d309_3 rfl (by decide) rfl (fun c3 => ?_) (fun c3 => ?_)
  · -- pc 12
    refine wq_k 13 1 d309_12 (by decide) rfl ?_
    refine wq_g 33 d309_13 (by decide) ?_
    refine wq_ri d309_33 (rfl) ?_
    first | (rw [if_pos (by simp only [i_lt, i_le, i_eq, ne_eq, Int32.reduceToInt, b2_0, b2_1, decide_eq_true_eq, decide_eq_false_iff_not, Bool.not_eq_true, Bool.not_eq_false, ef] at * <;> omega)] at hQ; exact hQ) | (rw [if_neg (by simp only [i_lt, i_le, i_eq, ne_eq, Int32.reduceToInt, b2_0, b2_1, decide_eq_true_eq, decide_eq_false_iff_not, Bool.not_eq_true, Bool.not_eq_false, ef] at * <;> omega), if_pos (by simp only [i_lt, i_le, i_eq, ne_eq, Int32.reduceToInt, b2_0, b2_1, decide_eq_true_eq, decide_eq_false_iff_not, Bool.not_eq_true, Bool.not_eq_false, ef] at * <;> omega)] at hQ; exact hQ) | (rw [if_neg (by simp only [i_lt, i_le, i_eq, ne_eq, Int32.reduceToInt, b2_0, b2_1, decide_eq_true_eq, decide_eq_false_iff_not, Bool.not_eq_true, Bool.not_eq_false, ef] at * <;> omega), if_neg (by simp only [i_lt, i_le, i_eq, ne_eq, Int32.reduceToInt, b2_0, b2_1, decide_eq_true_eq, decide_eq_false_iff_not, Bool.not_eq_true, Bool.not_eq_false, ef] at * <;> omega)] at hQ; exact hQ)
  · -- pc 6
    refine wq_l 7 d309_6 rfl rfl rfl rfl ?_
    refine wq_k 9 106 d309_7 (by decide) rfl ?_
    refine wq_b 16 12 d309_9 rfl (by decide) rfl (fun c9 => ?_) (fun c9 => ?_)
    · -- pc 16
      refine wq_l 17 d309_16 rfl rfl rfl rfl ?_
      refine wq_k 19 103 d309_17 (by decide) rfl ?_
      refine wq_b 28 22 d309_19 rfl (by decide) rfl (fun c19 => ?_) (fun c19 => ?_)
      · -- pc 28
        refine wq_k 29 3 d309_28 (by decide) rfl ?_
        refine wq_g 33 d309_29 (by decide) ?_
        refine wq_ri d309_33 (rfl) ?_
        first | (rw [if_pos (by simp only [i_lt, i_le, i_eq, ne_eq, Int32.reduceToInt, b2_0, b2_1, decide_eq_true_eq, decide_eq_false_iff_not, Bool.not_eq_true, Bool.not_eq_false, ef] at * <;> omega)] at hQ; exact hQ) | (rw [if_neg (by simp only [i_lt, i_le, i_eq, ne_eq, Int32.reduceToInt, b2_0, b2_1, decide_eq_true_eq, decide_eq_false_iff_not, Bool.not_eq_true, Bool.not_eq_false, ef] at * <;> omega), if_pos (by simp only [i_lt, i_le, i_eq, ne_eq, Int32.reduceToInt, b2_0, b2_1, decide_eq_true_eq, decide_eq_false_iff_not, Bool.not_eq_true, Bool.not_eq_false, ef] at * <;> omega)] at hQ; exact hQ) | (rw [if_neg (by simp only [i_lt, i_le, i_eq, ne_eq, Int32.reduceToInt, b2_0, b2_1, decide_eq_true_eq, decide_eq_false_iff_not, Bool.not_eq_true, Bool.not_eq_false, ef] at * <;> omega), if_neg (by simp only [i_lt, i_le, i_eq, ne_eq, Int32.reduceToInt, b2_0, b2_1, decide_eq_true_eq, decide_eq_false_iff_not, Bool.not_eq_true, Bool.not_eq_false, ef] at * <;> omega)] at hQ; exact hQ)
      · -- pc 22
        refine wq_l 23 d309_22 rfl rfl rfl rfl ?_
        refine wq_k 25 104 d309_23 (by decide) rfl ?_
        refine wq_b 32 28 d309_25 rfl (by decide) rfl (fun c25 => ?_) (fun c25 => ?_)
        · -- pc 32
          refine wq_k 33 2 d309_32 (by decide) rfl ?_
          refine wq_ri d309_33 (rfl) ?_
          first | (rw [if_pos (by simp only [i_lt, i_le, i_eq, ne_eq, Int32.reduceToInt, b2_0, b2_1, decide_eq_true_eq, decide_eq_false_iff_not, Bool.not_eq_true, Bool.not_eq_false, ef] at * <;> omega)] at hQ; exact hQ) | (rw [if_neg (by simp only [i_lt, i_le, i_eq, ne_eq, Int32.reduceToInt, b2_0, b2_1, decide_eq_true_eq, decide_eq_false_iff_not, Bool.not_eq_true, Bool.not_eq_false, ef] at * <;> omega), if_pos (by simp only [i_lt, i_le, i_eq, ne_eq, Int32.reduceToInt, b2_0, b2_1, decide_eq_true_eq, decide_eq_false_iff_not, Bool.not_eq_true, Bool.not_eq_false, ef] at * <;> omega)] at hQ; exact hQ) | (rw [if_neg (by simp only [i_lt, i_le, i_eq, ne_eq, Int32.reduceToInt, b2_0, b2_1, decide_eq_true_eq, decide_eq_false_iff_not, Bool.not_eq_true, Bool.not_eq_false, ef] at * <;> omega), if_neg (by simp only [i_lt, i_le, i_eq, ne_eq, Int32.reduceToInt, b2_0, b2_1, decide_eq_true_eq, decide_eq_false_iff_not, Bool.not_eq_true, Bool.not_eq_false, ef] at * <;> omega)] at hQ; exact hQ)
        · -- pc 28
          refine wq_k 29 3 d309_28 (by decide) rfl ?_
          refine wq_g 33 d309_29 (by decide) ?_
          refine wq_ri d309_33 (rfl) ?_
          first | (rw [if_pos (by simp only [i_lt, i_le, i_eq, ne_eq, Int32.reduceToInt, b2_0, b2_1, decide_eq_true_eq, decide_eq_false_iff_not, Bool.not_eq_true, Bool.not_eq_false, ef] at * <;> omega)] at hQ; exact hQ) | (rw [if_neg (by simp only [i_lt, i_le, i_eq, ne_eq, Int32.reduceToInt, b2_0, b2_1, decide_eq_true_eq, decide_eq_false_iff_not, Bool.not_eq_true, Bool.not_eq_false, ef] at * <;> omega), if_pos (by simp only [i_lt, i_le, i_eq, ne_eq, Int32.reduceToInt, b2_0, b2_1, decide_eq_true_eq, decide_eq_false_iff_not, Bool.not_eq_true, Bool.not_eq_false, ef] at * <;> omega)] at hQ; exact hQ) | (rw [if_neg (by simp only [i_lt, i_le, i_eq, ne_eq, Int32.reduceToInt, b2_0, b2_1, decide_eq_true_eq, decide_eq_false_iff_not, Bool.not_eq_true, Bool.not_eq_false, ef] at * <;> omega), if_neg (by simp only [i_lt, i_le, i_eq, ne_eq, Int32.reduceToInt, b2_0, b2_1, decide_eq_true_eq, decide_eq_false_iff_not, Bool.not_eq_true, Bool.not_eq_false, ef] at * <;> omega)] at hQ; exact hQ)
    · -- pc 12
      refine wq_k 13 1 d309_12 (by decide) rfl ?_
      refine wq_g 33 d309_13 (by decide) ?_
      refine wq_ri d309_33 (rfl) ?_
      first | (rw [if_pos (by simp only [i_lt, i_le, i_eq, ne_eq, Int32.reduceToInt, b2_0, b2_1, decide_eq_true_eq, decide_eq_false_iff_not, Bool.not_eq_true, Bool.not_eq_false, ef] at * <;> omega)] at hQ; exact hQ) | (rw [if_neg (by simp only [i_lt, i_le, i_eq, ne_eq, Int32.reduceToInt, b2_0, b2_1, decide_eq_true_eq, decide_eq_false_iff_not, Bool.not_eq_true, Bool.not_eq_false, ef] at * <;> omega), if_pos (by simp only [i_lt, i_le, i_eq, ne_eq, Int32.reduceToInt, b2_0, b2_1, decide_eq_true_eq, decide_eq_false_iff_not, Bool.not_eq_true, Bool.not_eq_false, ef] at * <;> omega)] at hQ; exact hQ) | (rw [if_neg (by simp only [i_lt, i_le, i_eq, ne_eq, Int32.reduceToInt, b2_0, b2_1, decide_eq_true_eq, decide_eq_false_iff_not, Bool.not_eq_true, Bool.not_eq_false, ef] at * <;> omega), if_neg (by simp only [i_lt, i_le, i_eq, ne_eq, Int32.reduceToInt, b2_0, b2_1, decide_eq_true_eq, decide_eq_false_iff_not, Bool.not_eq_true, Bool.not_eq_false, ef] at * <;> omega)] at hQ; exact hQ)
theorem sp175 {d : Nat} {σ : pm_S} {Q : Option Value → pm_S → Prop} {a b : Int32} (hQ : Q (some (.int (rl_wid a b))) σ) : pm_call pm_Y0 (d + 1) 175 [.int a, .int b] σ Q := by
  unfold rl_wid at hQ
  refine wq_m m175 (Nat.le_of_ble_eq_true rfl) (by decide) rfl ?_
  refine wq_l 1 d175_0 rfl rfl rfl rfl ?_
  refine wq_k 2 1 d175_1 (by decide) rfl ?_
  refine wq_b 10 5 d175_2 rfl (by decide) rfl (fun c2 => ?_) (fun c2 => ?_)
  · -- pc 10
    refine wq_k 11 (-1) d175_10 (by decide) rfl ?_
    refine wq_ri d175_11 (rfl) ?_
    first | (rw [if_neg (by simp only [i_lt, i_le, i_eq, ne_eq, Int32.reduceToInt, b2_0, b2_1, decide_eq_true_eq, decide_eq_false_iff_not, Bool.not_eq_true, Bool.not_eq_false] at * <;> omega)] at hQ; exact hQ) | (rw [if_pos (by simp only [i_lt, i_le, i_eq, ne_eq, Int32.reduceToInt, b2_0, b2_1, decide_eq_true_eq, decide_eq_false_iff_not, Bool.not_eq_true, Bool.not_eq_false] at * <;> omega), if_pos (by simp only [i_lt, i_le, i_eq, ne_eq, Int32.reduceToInt, b2_0, b2_1, decide_eq_true_eq, decide_eq_false_iff_not, Bool.not_eq_true, Bool.not_eq_false] at * <;> omega)] at hQ; exact hQ) | (rw [if_pos (by simp only [i_lt, i_le, i_eq, ne_eq, Int32.reduceToInt, b2_0, b2_1, decide_eq_true_eq, decide_eq_false_iff_not, Bool.not_eq_true, Bool.not_eq_false] at * <;> omega), if_neg (by simp only [i_lt, i_le, i_eq, ne_eq, Int32.reduceToInt, b2_0, b2_1, decide_eq_true_eq, decide_eq_false_iff_not, Bool.not_eq_true, Bool.not_eq_false] at * <;> omega)] at hQ; exact hQ)
  · -- pc 5
    refine wq_l 6 d175_5 rfl rfl rfl rfl ?_
    refine wq_k 7 1 d175_6 (by decide) rfl ?_
    refine wq_b 12 10 d175_7 rfl (by decide) rfl (fun c7 => ?_) (fun c7 => ?_)
    · -- pc 12
      refine wq_l 13 d175_12 rfl rfl rfl rfl ?_
      refine wq_l 14 d175_13 rfl rfl rfl rfl ?_
      refine wq_b 21 17 d175_14 rfl (by decide) rfl (fun c14 => ?_) (fun c14 => ?_)
      · -- pc 21
        refine wq_l 22 d175_21 rfl rfl rfl rfl ?_
        refine wq_ri d175_22 (rfl) ?_
        first | (rw [if_neg (by simp only [i_lt, i_le, i_eq, ne_eq, Int32.reduceToInt, b2_0, b2_1, decide_eq_true_eq, decide_eq_false_iff_not, Bool.not_eq_true, Bool.not_eq_false] at * <;> omega)] at hQ; exact hQ) | (rw [if_pos (by simp only [i_lt, i_le, i_eq, ne_eq, Int32.reduceToInt, b2_0, b2_1, decide_eq_true_eq, decide_eq_false_iff_not, Bool.not_eq_true, Bool.not_eq_false] at * <;> omega), if_pos (by simp only [i_lt, i_le, i_eq, ne_eq, Int32.reduceToInt, b2_0, b2_1, decide_eq_true_eq, decide_eq_false_iff_not, Bool.not_eq_true, Bool.not_eq_false] at * <;> omega)] at hQ; exact hQ) | (rw [if_pos (by simp only [i_lt, i_le, i_eq, ne_eq, Int32.reduceToInt, b2_0, b2_1, decide_eq_true_eq, decide_eq_false_iff_not, Bool.not_eq_true, Bool.not_eq_false] at * <;> omega), if_neg (by simp only [i_lt, i_le, i_eq, ne_eq, Int32.reduceToInt, b2_0, b2_1, decide_eq_true_eq, decide_eq_false_iff_not, Bool.not_eq_true, Bool.not_eq_false] at * <;> omega)] at hQ; exact hQ)
      · -- pc 17
        refine wq_l 18 d175_17 rfl rfl rfl rfl ?_
        refine wq_g 22 d175_18 (by decide) ?_
        refine wq_ri d175_22 (rfl) ?_
        first | (rw [if_neg (by simp only [i_lt, i_le, i_eq, ne_eq, Int32.reduceToInt, b2_0, b2_1, decide_eq_true_eq, decide_eq_false_iff_not, Bool.not_eq_true, Bool.not_eq_false] at * <;> omega)] at hQ; exact hQ) | (rw [if_pos (by simp only [i_lt, i_le, i_eq, ne_eq, Int32.reduceToInt, b2_0, b2_1, decide_eq_true_eq, decide_eq_false_iff_not, Bool.not_eq_true, Bool.not_eq_false] at * <;> omega), if_pos (by simp only [i_lt, i_le, i_eq, ne_eq, Int32.reduceToInt, b2_0, b2_1, decide_eq_true_eq, decide_eq_false_iff_not, Bool.not_eq_true, Bool.not_eq_false] at * <;> omega)] at hQ; exact hQ) | (rw [if_pos (by simp only [i_lt, i_le, i_eq, ne_eq, Int32.reduceToInt, b2_0, b2_1, decide_eq_true_eq, decide_eq_false_iff_not, Bool.not_eq_true, Bool.not_eq_false] at * <;> omega), if_neg (by simp only [i_lt, i_le, i_eq, ne_eq, Int32.reduceToInt, b2_0, b2_1, decide_eq_true_eq, decide_eq_false_iff_not, Bool.not_eq_true, Bool.not_eq_false] at * <;> omega)] at hQ; exact hQ)
    · -- pc 10
      refine wq_k 11 (-1) d175_10 (by decide) rfl ?_
      refine wq_ri d175_11 (rfl) ?_
      first | (rw [if_neg (by simp only [i_lt, i_le, i_eq, ne_eq, Int32.reduceToInt, b2_0, b2_1, decide_eq_true_eq, decide_eq_false_iff_not, Bool.not_eq_true, Bool.not_eq_false] at * <;> omega)] at hQ; exact hQ) | (rw [if_pos (by simp only [i_lt, i_le, i_eq, ne_eq, Int32.reduceToInt, b2_0, b2_1, decide_eq_true_eq, decide_eq_false_iff_not, Bool.not_eq_true, Bool.not_eq_false] at * <;> omega), if_pos (by simp only [i_lt, i_le, i_eq, ne_eq, Int32.reduceToInt, b2_0, b2_1, decide_eq_true_eq, decide_eq_false_iff_not, Bool.not_eq_true, Bool.not_eq_false] at * <;> omega)] at hQ; exact hQ) | (rw [if_pos (by simp only [i_lt, i_le, i_eq, ne_eq, Int32.reduceToInt, b2_0, b2_1, decide_eq_true_eq, decide_eq_false_iff_not, Bool.not_eq_true, Bool.not_eq_false] at * <;> omega), if_neg (by simp only [i_lt, i_le, i_eq, ne_eq, Int32.reduceToInt, b2_0, b2_1, decide_eq_true_eq, decide_eq_false_iff_not, Bool.not_eq_true, Bool.not_eq_false] at * <;> omega)] at hQ; exact hQ)
theorem sp176 {d : Nat} {σ : pm_S} {Q : Option Value → pm_S → Prop} {a b : Int32} (hQ : Q (some (.int (rl_com a b))) σ) : pm_call pm_Y0 (d + 2) 176 [.int a, .int b] σ Q := by
  unfold rl_com at hQ
  refine wq_m m176 (Nat.le_of_ble_eq_true rfl) (by decide) rfl ?_
  refine wq_l 1 d176_0 rfl rfl rfl rfl ?_
  refine wq_b 12 4 d176_1 rfl (by decide) rfl (fun c1 => ?_) (fun c1 => ?_)
  · -- pc 12
    rw [if_neg (by simp only [i_lt, i_le, i_eq, ne_eq, Int32.reduceToInt, b2_0, b2_1, decide_eq_true_eq, decide_eq_false_iff_not, Bool.not_eq_true, Bool.not_eq_false] at * <;> omega)] at hQ
    refine wq_l 13 d176_12 rfl rfl rfl rfl ?_
    refine wq_l 14 d176_13 rfl rfl rfl rfl ?_
    refine wq_vs 17 [_, _] d176_14 rfl rfl m175 rfl (Nat.le_of_ble_eq_true rfl) rfl (sp175 ?_)
    refine wq_ri d176_17 (rfl) ?_
    first | exact hQ | (rw [if_pos (by simp only [i_lt, i_le, i_eq, ne_eq, Int32.reduceToInt, b2_0, b2_1, decide_eq_true_eq, decide_eq_false_iff_not, Bool.not_eq_true, Bool.not_eq_false] at * <;> omega)] at hQ; exact hQ)
  · -- pc 4
    refine wq_l 5 d176_4 rfl rfl rfl rfl ?_
    refine wq_b 12 8 d176_5 rfl (by decide) rfl (fun c5 => ?_) (fun c5 => ?_)
    · -- pc 12
      rw [if_neg (by simp only [i_lt, i_le, i_eq, ne_eq, Int32.reduceToInt, b2_0, b2_1, decide_eq_true_eq, decide_eq_false_iff_not, Bool.not_eq_true, Bool.not_eq_false] at * <;> omega)] at hQ
      refine wq_l 13 d176_12 rfl rfl rfl rfl ?_
      refine wq_l 14 d176_13 rfl rfl rfl rfl ?_
      refine wq_vs 17 [_, _] d176_14 rfl rfl m175 rfl (Nat.le_of_ble_eq_true rfl) rfl (sp175 ?_)
      refine wq_ri d176_17 (rfl) ?_
      first | exact hQ | (rw [if_pos (by simp only [i_lt, i_le, i_eq, ne_eq, Int32.reduceToInt, b2_0, b2_1, decide_eq_true_eq, decide_eq_false_iff_not, Bool.not_eq_true, Bool.not_eq_false] at * <;> omega)] at hQ; exact hQ)
    · -- pc 8
      refine wq_k 9 0 d176_8 (by decide) rfl ?_
      refine wq_g 17 d176_9 (by decide) ?_
      refine wq_ri d176_17 (rfl) ?_
      first | exact hQ | (rw [if_pos (by simp only [i_lt, i_le, i_eq, ne_eq, Int32.reduceToInt, b2_0, b2_1, decide_eq_true_eq, decide_eq_false_iff_not, Bool.not_eq_true, Bool.not_eq_false] at * <;> omega)] at hQ; exact hQ)
theorem sp280 {d : Nat} {σ : pm_S} {Q : Option Value → pm_S → Prop} {k : Nat} {v t : Int32} (hk : k ≤ 36) (hQ : Q (some (.int (b2 (rl_bad k v t)))) σ) : pm_call pm_Y0 (d + 1) 280 [.int (nI k), .int v, .int t] σ Q := by
  have ek := nI_toInt (n := k) (by omega)
  have h31 : (k = 31 ∧ ¬ t = 0) ∨ (¬ k = 31 ∧ t = 0) → Q (some (.int 1)) σ := fun q => by
    have e : rl_bad k v t = true := by
      unfold rl_bad
      rcases q with ⟨q1, q2⟩ | ⟨q1, q2⟩
      · rw [decide_eq_true q1, decide_eq_false q2]; rfl
      · rw [decide_eq_false q1, decide_eq_true q2]; rfl
    rw [e] at hQ; exact hQ
  have h1 : ((k = 31 ∧ t = 0) ∨ (¬ k = 31 ∧ ¬ t = 0)) → (t = 1 ∧ (v.toInt < -32768 ∨ 32767 < v.toInt)) → Q (some (.int 1)) σ := fun q q2 => by
    have e : rl_bad k v t = true := by unfold rl_bad; rw [decide_eq_true q2, Bool.or_true]
    rw [e] at hQ; exact hQ
  have h0 : ((k = 31 ∧ t = 0) ∨ (¬ k = 31 ∧ ¬ t = 0)) → ¬ (t = 1 ∧ (v.toInt < -32768 ∨ 32767 < v.toInt)) → Q (some (.int 0)) σ := fun q q2 => by
    have e : rl_bad k v t = false := by
      unfold rl_bad
      rw [decide_eq_false q2, Bool.or_false]
      rcases q with ⟨q1, q2⟩ | ⟨q1, q2⟩
      · rw [decide_eq_true q1, decide_eq_true q2]; rfl
      · rw [decide_eq_false q1, decide_eq_false q2]; rfl
    rw [e] at hQ; exact hQ
  clear hQ
  refine wq_m m280 (Nat.le_of_ble_eq_true rfl) (by decide) rfl ?_
  refine wq_l 1 d280_0 rfl rfl rfl rfl ?_
  refine wq_k 3 31 d280_1 (by decide) rfl ?_
  refine wq_b 10 6 d280_3 rfl (by decide) rfl (fun c3 => ?_) (fun c3 => ?_)
  · -- pc 10
    refine wq_k 11 0 d280_10 (by decide) rfl ?_
    refine wq_l 12 d280_11 rfl rfl rfl rfl ?_
    refine wq_b 19 15 d280_12 rfl (by decide) rfl (fun c12 => ?_) (fun c12 => ?_)
    · -- pc 19
      refine wq_k 20 0 d280_19 (by decide) rfl ?_
      refine wq_b 42 23 d280_20 rfl (by decide) rfl (fun c20 => ?_) (fun c20 => ?_)
      · -- pc 42
        refine wq_k 43 1 d280_42 (by decide) rfl ?_
        refine wq_g 47 d280_43 (by decide) ?_
        refine wq_ri d280_47 (rfl) ?_
        first | (exfalso; exact absurd c20 (by decide)) | (exfalso; subst c25x; exact absurd c12 (by decide)) | exact h31 (by simp only [i_lt, i_le, i_eq, ne_eq, Int32.reduceToInt, b2_0, b2_1, decide_eq_true_eq, decide_eq_false_iff_not, Bool.not_eq_true, Bool.not_eq_false, ek] at * <;> omega) | exact h1 (by clear h1 h0; subst c25x; simp only [i_eq, ek, Int32.reduceToInt] at c3 ⊢; omega) ⟨c25x, by clear h1 h0; simp only [i_lt, i_le, Int32.reduceToInt] at c32 ⊢; omega⟩ | exact h1 (by clear h1 h0; subst c25x; simp only [i_eq, ek, Int32.reduceToInt] at c3 ⊢; omega) ⟨c25x, by clear h1 h0; simp only [i_lt, i_le, Int32.reduceToInt] at c39 ⊢; omega⟩ | exact h0 (by clear h1 h0; subst c25x; simp only [i_eq, ek, Int32.reduceToInt] at c3 ⊢; omega) (fun q => by clear h1 h0; simp only [i_lt, i_le, Int32.reduceToInt] at c32 c39 q; omega) | exact h0 (by simp only [i_lt, i_le, i_eq, ne_eq, Int32.reduceToInt, b2_0, b2_1, decide_eq_true_eq, decide_eq_false_iff_not, Bool.not_eq_true, Bool.not_eq_false, ek] at * <;> omega) (fun q => c25 q.1)
      · -- pc 23
        refine wq_l 24 d280_23 rfl rfl rfl rfl ?_
        refine wq_k 25 1 d280_24 (by decide) rfl ?_
        refine wq_b 46 28 d280_25 rfl (by decide) rfl (fun c25 => ?_) (fun c25 => ?_)
        · -- pc 46
          refine wq_k 47 0 d280_46 (by decide) rfl ?_
          refine wq_ri d280_47 (rfl) ?_
          first | (exfalso; exact absurd c20 (by decide)) | (exfalso; subst c25x; exact absurd c12 (by decide)) | exact h31 (by simp only [i_lt, i_le, i_eq, ne_eq, Int32.reduceToInt, b2_0, b2_1, decide_eq_true_eq, decide_eq_false_iff_not, Bool.not_eq_true, Bool.not_eq_false, ek] at * <;> omega) | exact h1 (by clear h1 h0; subst c25x; simp only [i_eq, ek, Int32.reduceToInt] at c3 ⊢; omega) ⟨c25x, by clear h1 h0; simp only [i_lt, i_le, Int32.reduceToInt] at c32 ⊢; omega⟩ | exact h1 (by clear h1 h0; subst c25x; simp only [i_eq, ek, Int32.reduceToInt] at c3 ⊢; omega) ⟨c25x, by clear h1 h0; simp only [i_lt, i_le, Int32.reduceToInt] at c39 ⊢; omega⟩ | exact h0 (by clear h1 h0; subst c25x; simp only [i_eq, ek, Int32.reduceToInt] at c3 ⊢; omega) (fun q => by clear h1 h0; simp only [i_lt, i_le, Int32.reduceToInt] at c32 c39 q; omega) | exact h0 (by simp only [i_lt, i_le, i_eq, ne_eq, Int32.reduceToInt, b2_0, b2_1, decide_eq_true_eq, decide_eq_false_iff_not, Bool.not_eq_true, Bool.not_eq_false, ek] at * <;> omega) (fun q => c25 q.1)
        · -- pc 28
          have c25x := Classical.not_not.mp c25; clear h31
          refine wq_l 29 d280_28 rfl rfl rfl rfl ?_
          refine wq_k 32 (-32768) d280_29 (by decide) rfl ?_
          refine wq_b 42 35 d280_32 rfl (by decide) rfl (fun c32 => ?_) (fun c32 => ?_)
          · -- pc 42
            refine wq_k 43 1 d280_42 (by decide) rfl ?_
            refine wq_g 47 d280_43 (by decide) ?_
            refine wq_ri d280_47 (rfl) ?_
            first | (exfalso; exact absurd c20 (by decide)) | (exfalso; subst c25x; exact absurd c12 (by decide)) | exact h31 (by simp only [i_lt, i_le, i_eq, ne_eq, Int32.reduceToInt, b2_0, b2_1, decide_eq_true_eq, decide_eq_false_iff_not, Bool.not_eq_true, Bool.not_eq_false, ek] at * <;> omega) | exact h1 (by clear h1 h0; subst c25x; simp only [i_eq, ek, Int32.reduceToInt] at c3 ⊢; omega) ⟨c25x, by clear h1 h0; simp only [i_lt, i_le, Int32.reduceToInt] at c32 ⊢; omega⟩ | exact h1 (by clear h1 h0; subst c25x; simp only [i_eq, ek, Int32.reduceToInt] at c3 ⊢; omega) ⟨c25x, by clear h1 h0; simp only [i_lt, i_le, Int32.reduceToInt] at c39 ⊢; omega⟩ | exact h0 (by clear h1 h0; subst c25x; simp only [i_eq, ek, Int32.reduceToInt] at c3 ⊢; omega) (fun q => by clear h1 h0; simp only [i_lt, i_le, Int32.reduceToInt] at c32 c39 q; omega) | exact h0 (by simp only [i_lt, i_le, i_eq, ne_eq, Int32.reduceToInt, b2_0, b2_1, decide_eq_true_eq, decide_eq_false_iff_not, Bool.not_eq_true, Bool.not_eq_false, ek] at * <;> omega) (fun q => c25 q.1)
          · -- pc 35
            refine wq_l 36 d280_35 rfl rfl rfl rfl ?_
            refine wq_k 39 32767 d280_36 (by decide) rfl ?_
            refine wq_b 46 42 d280_39 rfl (by decide) rfl (fun c39 => ?_) (fun c39 => ?_)
            · -- pc 46
              refine wq_k 47 0 d280_46 (by decide) rfl ?_
              refine wq_ri d280_47 (rfl) ?_
              first | (exfalso; exact absurd c20 (by decide)) | (exfalso; subst c25x; exact absurd c12 (by decide)) | exact h31 (by simp only [i_lt, i_le, i_eq, ne_eq, Int32.reduceToInt, b2_0, b2_1, decide_eq_true_eq, decide_eq_false_iff_not, Bool.not_eq_true, Bool.not_eq_false, ek] at * <;> omega) | exact h1 (by clear h1 h0; subst c25x; simp only [i_eq, ek, Int32.reduceToInt] at c3 ⊢; omega) ⟨c25x, by clear h1 h0; simp only [i_lt, i_le, Int32.reduceToInt] at c32 ⊢; omega⟩ | exact h1 (by clear h1 h0; subst c25x; simp only [i_eq, ek, Int32.reduceToInt] at c3 ⊢; omega) ⟨c25x, by clear h1 h0; simp only [i_lt, i_le, Int32.reduceToInt] at c39 ⊢; omega⟩ | exact h0 (by clear h1 h0; subst c25x; simp only [i_eq, ek, Int32.reduceToInt] at c3 ⊢; omega) (fun q => by clear h1 h0; simp only [i_lt, i_le, Int32.reduceToInt] at c32 c39 q; omega) | exact h0 (by simp only [i_lt, i_le, i_eq, ne_eq, Int32.reduceToInt, b2_0, b2_1, decide_eq_true_eq, decide_eq_false_iff_not, Bool.not_eq_true, Bool.not_eq_false, ek] at * <;> omega) (fun q => c25 q.1)
            · -- pc 42
              refine wq_k 43 1 d280_42 (by decide) rfl ?_
              refine wq_g 47 d280_43 (by decide) ?_
              refine wq_ri d280_47 (rfl) ?_
              first | (exfalso; exact absurd c20 (by decide)) | (exfalso; subst c25x; exact absurd c12 (by decide)) | exact h31 (by simp only [i_lt, i_le, i_eq, ne_eq, Int32.reduceToInt, b2_0, b2_1, decide_eq_true_eq, decide_eq_false_iff_not, Bool.not_eq_true, Bool.not_eq_false, ek] at * <;> omega) | exact h1 (by clear h1 h0; subst c25x; simp only [i_eq, ek, Int32.reduceToInt] at c3 ⊢; omega) ⟨c25x, by clear h1 h0; simp only [i_lt, i_le, Int32.reduceToInt] at c32 ⊢; omega⟩ | exact h1 (by clear h1 h0; subst c25x; simp only [i_eq, ek, Int32.reduceToInt] at c3 ⊢; omega) ⟨c25x, by clear h1 h0; simp only [i_lt, i_le, Int32.reduceToInt] at c39 ⊢; omega⟩ | exact h0 (by clear h1 h0; subst c25x; simp only [i_eq, ek, Int32.reduceToInt] at c3 ⊢; omega) (fun q => by clear h1 h0; simp only [i_lt, i_le, Int32.reduceToInt] at c32 c39 q; omega) | exact h0 (by simp only [i_lt, i_le, i_eq, ne_eq, Int32.reduceToInt, b2_0, b2_1, decide_eq_true_eq, decide_eq_false_iff_not, Bool.not_eq_true, Bool.not_eq_false, ek] at * <;> omega) (fun q => c25 q.1)
    · -- pc 15
      refine wq_k 16 1 d280_15 (by decide) rfl ?_
      refine wq_g 20 d280_16 (by decide) ?_
      refine wq_b 42 23 d280_20 rfl (by decide) rfl (fun c20 => ?_) (fun c20 => ?_)
      · -- pc 42
        refine wq_k 43 1 d280_42 (by decide) rfl ?_
        refine wq_g 47 d280_43 (by decide) ?_
        refine wq_ri d280_47 (rfl) ?_
        first | (exfalso; exact absurd c20 (by decide)) | (exfalso; subst c25x; exact absurd c12 (by decide)) | exact h31 (by simp only [i_lt, i_le, i_eq, ne_eq, Int32.reduceToInt, b2_0, b2_1, decide_eq_true_eq, decide_eq_false_iff_not, Bool.not_eq_true, Bool.not_eq_false, ek] at * <;> omega) | exact h1 (by clear h1 h0; subst c25x; simp only [i_eq, ek, Int32.reduceToInt] at c3 ⊢; omega) ⟨c25x, by clear h1 h0; simp only [i_lt, i_le, Int32.reduceToInt] at c32 ⊢; omega⟩ | exact h1 (by clear h1 h0; subst c25x; simp only [i_eq, ek, Int32.reduceToInt] at c3 ⊢; omega) ⟨c25x, by clear h1 h0; simp only [i_lt, i_le, Int32.reduceToInt] at c39 ⊢; omega⟩ | exact h0 (by clear h1 h0; subst c25x; simp only [i_eq, ek, Int32.reduceToInt] at c3 ⊢; omega) (fun q => by clear h1 h0; simp only [i_lt, i_le, Int32.reduceToInt] at c32 c39 q; omega) | exact h0 (by simp only [i_lt, i_le, i_eq, ne_eq, Int32.reduceToInt, b2_0, b2_1, decide_eq_true_eq, decide_eq_false_iff_not, Bool.not_eq_true, Bool.not_eq_false, ek] at * <;> omega) (fun q => c25 q.1)
      · -- pc 23
        refine wq_l 24 d280_23 rfl rfl rfl rfl ?_
        refine wq_k 25 1 d280_24 (by decide) rfl ?_
        refine wq_b 46 28 d280_25 rfl (by decide) rfl (fun c25 => ?_) (fun c25 => ?_)
        · -- pc 46
          refine wq_k 47 0 d280_46 (by decide) rfl ?_
          refine wq_ri d280_47 (rfl) ?_
          first | (exfalso; exact absurd c20 (by decide)) | (exfalso; subst c25x; exact absurd c12 (by decide)) | exact h31 (by simp only [i_lt, i_le, i_eq, ne_eq, Int32.reduceToInt, b2_0, b2_1, decide_eq_true_eq, decide_eq_false_iff_not, Bool.not_eq_true, Bool.not_eq_false, ek] at * <;> omega) | exact h1 (by clear h1 h0; subst c25x; simp only [i_eq, ek, Int32.reduceToInt] at c3 ⊢; omega) ⟨c25x, by clear h1 h0; simp only [i_lt, i_le, Int32.reduceToInt] at c32 ⊢; omega⟩ | exact h1 (by clear h1 h0; subst c25x; simp only [i_eq, ek, Int32.reduceToInt] at c3 ⊢; omega) ⟨c25x, by clear h1 h0; simp only [i_lt, i_le, Int32.reduceToInt] at c39 ⊢; omega⟩ | exact h0 (by clear h1 h0; subst c25x; simp only [i_eq, ek, Int32.reduceToInt] at c3 ⊢; omega) (fun q => by clear h1 h0; simp only [i_lt, i_le, Int32.reduceToInt] at c32 c39 q; omega) | exact h0 (by simp only [i_lt, i_le, i_eq, ne_eq, Int32.reduceToInt, b2_0, b2_1, decide_eq_true_eq, decide_eq_false_iff_not, Bool.not_eq_true, Bool.not_eq_false, ek] at * <;> omega) (fun q => c25 q.1)
        · -- pc 28
          have c25x := Classical.not_not.mp c25; clear h31
          refine wq_l 29 d280_28 rfl rfl rfl rfl ?_
          refine wq_k 32 (-32768) d280_29 (by decide) rfl ?_
          refine wq_b 42 35 d280_32 rfl (by decide) rfl (fun c32 => ?_) (fun c32 => ?_)
          · -- pc 42
            refine wq_k 43 1 d280_42 (by decide) rfl ?_
            refine wq_g 47 d280_43 (by decide) ?_
            refine wq_ri d280_47 (rfl) ?_
            first | (exfalso; exact absurd c20 (by decide)) | (exfalso; subst c25x; exact absurd c12 (by decide)) | exact h31 (by simp only [i_lt, i_le, i_eq, ne_eq, Int32.reduceToInt, b2_0, b2_1, decide_eq_true_eq, decide_eq_false_iff_not, Bool.not_eq_true, Bool.not_eq_false, ek] at * <;> omega) | exact h1 (by clear h1 h0; subst c25x; simp only [i_eq, ek, Int32.reduceToInt] at c3 ⊢; omega) ⟨c25x, by clear h1 h0; simp only [i_lt, i_le, Int32.reduceToInt] at c32 ⊢; omega⟩ | exact h1 (by clear h1 h0; subst c25x; simp only [i_eq, ek, Int32.reduceToInt] at c3 ⊢; omega) ⟨c25x, by clear h1 h0; simp only [i_lt, i_le, Int32.reduceToInt] at c39 ⊢; omega⟩ | exact h0 (by clear h1 h0; subst c25x; simp only [i_eq, ek, Int32.reduceToInt] at c3 ⊢; omega) (fun q => by clear h1 h0; simp only [i_lt, i_le, Int32.reduceToInt] at c32 c39 q; omega) | exact h0 (by simp only [i_lt, i_le, i_eq, ne_eq, Int32.reduceToInt, b2_0, b2_1, decide_eq_true_eq, decide_eq_false_iff_not, Bool.not_eq_true, Bool.not_eq_false, ek] at * <;> omega) (fun q => c25 q.1)
          · -- pc 35
            refine wq_l 36 d280_35 rfl rfl rfl rfl ?_
            refine wq_k 39 32767 d280_36 (by decide) rfl ?_
            refine wq_b 46 42 d280_39 rfl (by decide) rfl (fun c39 => ?_) (fun c39 => ?_)
            · -- pc 46
              refine wq_k 47 0 d280_46 (by decide) rfl ?_
              refine wq_ri d280_47 (rfl) ?_
              first | (exfalso; exact absurd c20 (by decide)) | (exfalso; subst c25x; exact absurd c12 (by decide)) | exact h31 (by simp only [i_lt, i_le, i_eq, ne_eq, Int32.reduceToInt, b2_0, b2_1, decide_eq_true_eq, decide_eq_false_iff_not, Bool.not_eq_true, Bool.not_eq_false, ek] at * <;> omega) | exact h1 (by clear h1 h0; subst c25x; simp only [i_eq, ek, Int32.reduceToInt] at c3 ⊢; omega) ⟨c25x, by clear h1 h0; simp only [i_lt, i_le, Int32.reduceToInt] at c32 ⊢; omega⟩ | exact h1 (by clear h1 h0; subst c25x; simp only [i_eq, ek, Int32.reduceToInt] at c3 ⊢; omega) ⟨c25x, by clear h1 h0; simp only [i_lt, i_le, Int32.reduceToInt] at c39 ⊢; omega⟩ | exact h0 (by clear h1 h0; subst c25x; simp only [i_eq, ek, Int32.reduceToInt] at c3 ⊢; omega) (fun q => by clear h1 h0; simp only [i_lt, i_le, Int32.reduceToInt] at c32 c39 q; omega) | exact h0 (by simp only [i_lt, i_le, i_eq, ne_eq, Int32.reduceToInt, b2_0, b2_1, decide_eq_true_eq, decide_eq_false_iff_not, Bool.not_eq_true, Bool.not_eq_false, ek] at * <;> omega) (fun q => c25 q.1)
            · -- pc 42
              refine wq_k 43 1 d280_42 (by decide) rfl ?_
              refine wq_g 47 d280_43 (by decide) ?_
              refine wq_ri d280_47 (rfl) ?_
              first | (exfalso; exact absurd c20 (by decide)) | (exfalso; subst c25x; exact absurd c12 (by decide)) | exact h31 (by simp only [i_lt, i_le, i_eq, ne_eq, Int32.reduceToInt, b2_0, b2_1, decide_eq_true_eq, decide_eq_false_iff_not, Bool.not_eq_true, Bool.not_eq_false, ek] at * <;> omega) | exact h1 (by clear h1 h0; subst c25x; simp only [i_eq, ek, Int32.reduceToInt] at c3 ⊢; omega) ⟨c25x, by clear h1 h0; simp only [i_lt, i_le, Int32.reduceToInt] at c32 ⊢; omega⟩ | exact h1 (by clear h1 h0; subst c25x; simp only [i_eq, ek, Int32.reduceToInt] at c3 ⊢; omega) ⟨c25x, by clear h1 h0; simp only [i_lt, i_le, Int32.reduceToInt] at c39 ⊢; omega⟩ | exact h0 (by clear h1 h0; subst c25x; simp only [i_eq, ek, Int32.reduceToInt] at c3 ⊢; omega) (fun q => by clear h1 h0; simp only [i_lt, i_le, Int32.reduceToInt] at c32 c39 q; omega) | exact h0 (by simp only [i_lt, i_le, i_eq, ne_eq, Int32.reduceToInt, b2_0, b2_1, decide_eq_true_eq, decide_eq_false_iff_not, Bool.not_eq_true, Bool.not_eq_false, ek] at * <;> omega) (fun q => c25 q.1)
  · -- pc 6
    refine wq_k 7 1 d280_6 (by decide) rfl ?_
    refine wq_g 11 d280_7 (by decide) ?_
    refine wq_l 12 d280_11 rfl rfl rfl rfl ?_
    refine wq_b 19 15 d280_12 rfl (by decide) rfl (fun c12 => ?_) (fun c12 => ?_)
    · -- pc 19
      refine wq_k 20 0 d280_19 (by decide) rfl ?_
      refine wq_b 42 23 d280_20 rfl (by decide) rfl (fun c20 => ?_) (fun c20 => ?_)
      · -- pc 42
        refine wq_k 43 1 d280_42 (by decide) rfl ?_
        refine wq_g 47 d280_43 (by decide) ?_
        refine wq_ri d280_47 (rfl) ?_
        first | (exfalso; exact absurd c20 (by decide)) | (exfalso; subst c25x; exact absurd c12 (by decide)) | exact h31 (by simp only [i_lt, i_le, i_eq, ne_eq, Int32.reduceToInt, b2_0, b2_1, decide_eq_true_eq, decide_eq_false_iff_not, Bool.not_eq_true, Bool.not_eq_false, ek] at * <;> omega) | exact h1 (by clear h1 h0; subst c25x; simp only [i_eq, ek, Int32.reduceToInt] at c3 ⊢; omega) ⟨c25x, by clear h1 h0; simp only [i_lt, i_le, Int32.reduceToInt] at c32 ⊢; omega⟩ | exact h1 (by clear h1 h0; subst c25x; simp only [i_eq, ek, Int32.reduceToInt] at c3 ⊢; omega) ⟨c25x, by clear h1 h0; simp only [i_lt, i_le, Int32.reduceToInt] at c39 ⊢; omega⟩ | exact h0 (by clear h1 h0; subst c25x; simp only [i_eq, ek, Int32.reduceToInt] at c3 ⊢; omega) (fun q => by clear h1 h0; simp only [i_lt, i_le, Int32.reduceToInt] at c32 c39 q; omega) | exact h0 (by simp only [i_lt, i_le, i_eq, ne_eq, Int32.reduceToInt, b2_0, b2_1, decide_eq_true_eq, decide_eq_false_iff_not, Bool.not_eq_true, Bool.not_eq_false, ek] at * <;> omega) (fun q => c25 q.1)
      · -- pc 23
        refine wq_l 24 d280_23 rfl rfl rfl rfl ?_
        refine wq_k 25 1 d280_24 (by decide) rfl ?_
        refine wq_b 46 28 d280_25 rfl (by decide) rfl (fun c25 => ?_) (fun c25 => ?_)
        · -- pc 46
          refine wq_k 47 0 d280_46 (by decide) rfl ?_
          refine wq_ri d280_47 (rfl) ?_
          first | (exfalso; exact absurd c20 (by decide)) | (exfalso; subst c25x; exact absurd c12 (by decide)) | exact h31 (by simp only [i_lt, i_le, i_eq, ne_eq, Int32.reduceToInt, b2_0, b2_1, decide_eq_true_eq, decide_eq_false_iff_not, Bool.not_eq_true, Bool.not_eq_false, ek] at * <;> omega) | exact h1 (by clear h1 h0; subst c25x; simp only [i_eq, ek, Int32.reduceToInt] at c3 ⊢; omega) ⟨c25x, by clear h1 h0; simp only [i_lt, i_le, Int32.reduceToInt] at c32 ⊢; omega⟩ | exact h1 (by clear h1 h0; subst c25x; simp only [i_eq, ek, Int32.reduceToInt] at c3 ⊢; omega) ⟨c25x, by clear h1 h0; simp only [i_lt, i_le, Int32.reduceToInt] at c39 ⊢; omega⟩ | exact h0 (by clear h1 h0; subst c25x; simp only [i_eq, ek, Int32.reduceToInt] at c3 ⊢; omega) (fun q => by clear h1 h0; simp only [i_lt, i_le, Int32.reduceToInt] at c32 c39 q; omega) | exact h0 (by simp only [i_lt, i_le, i_eq, ne_eq, Int32.reduceToInt, b2_0, b2_1, decide_eq_true_eq, decide_eq_false_iff_not, Bool.not_eq_true, Bool.not_eq_false, ek] at * <;> omega) (fun q => c25 q.1)
        · -- pc 28
          have c25x := Classical.not_not.mp c25; clear h31
          refine wq_l 29 d280_28 rfl rfl rfl rfl ?_
          refine wq_k 32 (-32768) d280_29 (by decide) rfl ?_
          refine wq_b 42 35 d280_32 rfl (by decide) rfl (fun c32 => ?_) (fun c32 => ?_)
          · -- pc 42
            refine wq_k 43 1 d280_42 (by decide) rfl ?_
            refine wq_g 47 d280_43 (by decide) ?_
            refine wq_ri d280_47 (rfl) ?_
            first | (exfalso; exact absurd c20 (by decide)) | (exfalso; subst c25x; exact absurd c12 (by decide)) | exact h31 (by simp only [i_lt, i_le, i_eq, ne_eq, Int32.reduceToInt, b2_0, b2_1, decide_eq_true_eq, decide_eq_false_iff_not, Bool.not_eq_true, Bool.not_eq_false, ek] at * <;> omega) | exact h1 (by clear h1 h0; subst c25x; simp only [i_eq, ek, Int32.reduceToInt] at c3 ⊢; omega) ⟨c25x, by clear h1 h0; simp only [i_lt, i_le, Int32.reduceToInt] at c32 ⊢; omega⟩ | exact h1 (by clear h1 h0; subst c25x; simp only [i_eq, ek, Int32.reduceToInt] at c3 ⊢; omega) ⟨c25x, by clear h1 h0; simp only [i_lt, i_le, Int32.reduceToInt] at c39 ⊢; omega⟩ | exact h0 (by clear h1 h0; subst c25x; simp only [i_eq, ek, Int32.reduceToInt] at c3 ⊢; omega) (fun q => by clear h1 h0; simp only [i_lt, i_le, Int32.reduceToInt] at c32 c39 q; omega) | exact h0 (by simp only [i_lt, i_le, i_eq, ne_eq, Int32.reduceToInt, b2_0, b2_1, decide_eq_true_eq, decide_eq_false_iff_not, Bool.not_eq_true, Bool.not_eq_false, ek] at * <;> omega) (fun q => c25 q.1)
          · -- pc 35
            refine wq_l 36 d280_35 rfl rfl rfl rfl ?_
            refine wq_k 39 32767 d280_36 (by decide) rfl ?_
            refine wq_b 46 42 d280_39 rfl (by decide) rfl (fun c39 => ?_) (fun c39 => ?_)
            · -- pc 46
              refine wq_k 47 0 d280_46 (by decide) rfl ?_
              refine wq_ri d280_47 (rfl) ?_
              first | (exfalso; exact absurd c20 (by decide)) | (exfalso; subst c25x; exact absurd c12 (by decide)) | exact h31 (by simp only [i_lt, i_le, i_eq, ne_eq, Int32.reduceToInt, b2_0, b2_1, decide_eq_true_eq, decide_eq_false_iff_not, Bool.not_eq_true, Bool.not_eq_false, ek] at * <;> omega) | exact h1 (by clear h1 h0; subst c25x; simp only [i_eq, ek, Int32.reduceToInt] at c3 ⊢; omega) ⟨c25x, by clear h1 h0; simp only [i_lt, i_le, Int32.reduceToInt] at c32 ⊢; omega⟩ | exact h1 (by clear h1 h0; subst c25x; simp only [i_eq, ek, Int32.reduceToInt] at c3 ⊢; omega) ⟨c25x, by clear h1 h0; simp only [i_lt, i_le, Int32.reduceToInt] at c39 ⊢; omega⟩ | exact h0 (by clear h1 h0; subst c25x; simp only [i_eq, ek, Int32.reduceToInt] at c3 ⊢; omega) (fun q => by clear h1 h0; simp only [i_lt, i_le, Int32.reduceToInt] at c32 c39 q; omega) | exact h0 (by simp only [i_lt, i_le, i_eq, ne_eq, Int32.reduceToInt, b2_0, b2_1, decide_eq_true_eq, decide_eq_false_iff_not, Bool.not_eq_true, Bool.not_eq_false, ek] at * <;> omega) (fun q => c25 q.1)
            · -- pc 42
              refine wq_k 43 1 d280_42 (by decide) rfl ?_
              refine wq_g 47 d280_43 (by decide) ?_
              refine wq_ri d280_47 (rfl) ?_
              first | (exfalso; exact absurd c20 (by decide)) | (exfalso; subst c25x; exact absurd c12 (by decide)) | exact h31 (by simp only [i_lt, i_le, i_eq, ne_eq, Int32.reduceToInt, b2_0, b2_1, decide_eq_true_eq, decide_eq_false_iff_not, Bool.not_eq_true, Bool.not_eq_false, ek] at * <;> omega) | exact h1 (by clear h1 h0; subst c25x; simp only [i_eq, ek, Int32.reduceToInt] at c3 ⊢; omega) ⟨c25x, by clear h1 h0; simp only [i_lt, i_le, Int32.reduceToInt] at c32 ⊢; omega⟩ | exact h1 (by clear h1 h0; subst c25x; simp only [i_eq, ek, Int32.reduceToInt] at c3 ⊢; omega) ⟨c25x, by clear h1 h0; simp only [i_lt, i_le, Int32.reduceToInt] at c39 ⊢; omega⟩ | exact h0 (by clear h1 h0; subst c25x; simp only [i_eq, ek, Int32.reduceToInt] at c3 ⊢; omega) (fun q => by clear h1 h0; simp only [i_lt, i_le, Int32.reduceToInt] at c32 c39 q; omega) | exact h0 (by simp only [i_lt, i_le, i_eq, ne_eq, Int32.reduceToInt, b2_0, b2_1, decide_eq_true_eq, decide_eq_false_iff_not, Bool.not_eq_true, Bool.not_eq_false, ek] at * <;> omega) (fun q => c25 q.1)
    · -- pc 15
      refine wq_k 16 1 d280_15 (by decide) rfl ?_
      refine wq_g 20 d280_16 (by decide) ?_
      refine wq_b 42 23 d280_20 rfl (by decide) rfl (fun c20 => ?_) (fun c20 => ?_)
      · -- pc 42
        refine wq_k 43 1 d280_42 (by decide) rfl ?_
        refine wq_g 47 d280_43 (by decide) ?_
        refine wq_ri d280_47 (rfl) ?_
        first | (exfalso; exact absurd c20 (by decide)) | (exfalso; subst c25x; exact absurd c12 (by decide)) | exact h31 (by simp only [i_lt, i_le, i_eq, ne_eq, Int32.reduceToInt, b2_0, b2_1, decide_eq_true_eq, decide_eq_false_iff_not, Bool.not_eq_true, Bool.not_eq_false, ek] at * <;> omega) | exact h1 (by clear h1 h0; subst c25x; simp only [i_eq, ek, Int32.reduceToInt] at c3 ⊢; omega) ⟨c25x, by clear h1 h0; simp only [i_lt, i_le, Int32.reduceToInt] at c32 ⊢; omega⟩ | exact h1 (by clear h1 h0; subst c25x; simp only [i_eq, ek, Int32.reduceToInt] at c3 ⊢; omega) ⟨c25x, by clear h1 h0; simp only [i_lt, i_le, Int32.reduceToInt] at c39 ⊢; omega⟩ | exact h0 (by clear h1 h0; subst c25x; simp only [i_eq, ek, Int32.reduceToInt] at c3 ⊢; omega) (fun q => by clear h1 h0; simp only [i_lt, i_le, Int32.reduceToInt] at c32 c39 q; omega) | exact h0 (by simp only [i_lt, i_le, i_eq, ne_eq, Int32.reduceToInt, b2_0, b2_1, decide_eq_true_eq, decide_eq_false_iff_not, Bool.not_eq_true, Bool.not_eq_false, ek] at * <;> omega) (fun q => c25 q.1)
      · -- pc 23
        refine wq_l 24 d280_23 rfl rfl rfl rfl ?_
        refine wq_k 25 1 d280_24 (by decide) rfl ?_
        refine wq_b 46 28 d280_25 rfl (by decide) rfl (fun c25 => ?_) (fun c25 => ?_)
        · -- pc 46
          refine wq_k 47 0 d280_46 (by decide) rfl ?_
          refine wq_ri d280_47 (rfl) ?_
          first | (exfalso; exact absurd c20 (by decide)) | (exfalso; subst c25x; exact absurd c12 (by decide)) | exact h31 (by simp only [i_lt, i_le, i_eq, ne_eq, Int32.reduceToInt, b2_0, b2_1, decide_eq_true_eq, decide_eq_false_iff_not, Bool.not_eq_true, Bool.not_eq_false, ek] at * <;> omega) | exact h1 (by clear h1 h0; subst c25x; simp only [i_eq, ek, Int32.reduceToInt] at c3 ⊢; omega) ⟨c25x, by clear h1 h0; simp only [i_lt, i_le, Int32.reduceToInt] at c32 ⊢; omega⟩ | exact h1 (by clear h1 h0; subst c25x; simp only [i_eq, ek, Int32.reduceToInt] at c3 ⊢; omega) ⟨c25x, by clear h1 h0; simp only [i_lt, i_le, Int32.reduceToInt] at c39 ⊢; omega⟩ | exact h0 (by clear h1 h0; subst c25x; simp only [i_eq, ek, Int32.reduceToInt] at c3 ⊢; omega) (fun q => by clear h1 h0; simp only [i_lt, i_le, Int32.reduceToInt] at c32 c39 q; omega) | exact h0 (by simp only [i_lt, i_le, i_eq, ne_eq, Int32.reduceToInt, b2_0, b2_1, decide_eq_true_eq, decide_eq_false_iff_not, Bool.not_eq_true, Bool.not_eq_false, ek] at * <;> omega) (fun q => c25 q.1)
        · -- pc 28
          have c25x := Classical.not_not.mp c25; clear h31
          refine wq_l 29 d280_28 rfl rfl rfl rfl ?_
          refine wq_k 32 (-32768) d280_29 (by decide) rfl ?_
          refine wq_b 42 35 d280_32 rfl (by decide) rfl (fun c32 => ?_) (fun c32 => ?_)
          · -- pc 42
            refine wq_k 43 1 d280_42 (by decide) rfl ?_
            refine wq_g 47 d280_43 (by decide) ?_
            refine wq_ri d280_47 (rfl) ?_
            first | (exfalso; exact absurd c20 (by decide)) | (exfalso; subst c25x; exact absurd c12 (by decide)) | exact h31 (by simp only [i_lt, i_le, i_eq, ne_eq, Int32.reduceToInt, b2_0, b2_1, decide_eq_true_eq, decide_eq_false_iff_not, Bool.not_eq_true, Bool.not_eq_false, ek] at * <;> omega) | exact h1 (by clear h1 h0; subst c25x; simp only [i_eq, ek, Int32.reduceToInt] at c3 ⊢; omega) ⟨c25x, by clear h1 h0; simp only [i_lt, i_le, Int32.reduceToInt] at c32 ⊢; omega⟩ | exact h1 (by clear h1 h0; subst c25x; simp only [i_eq, ek, Int32.reduceToInt] at c3 ⊢; omega) ⟨c25x, by clear h1 h0; simp only [i_lt, i_le, Int32.reduceToInt] at c39 ⊢; omega⟩ | exact h0 (by clear h1 h0; subst c25x; simp only [i_eq, ek, Int32.reduceToInt] at c3 ⊢; omega) (fun q => by clear h1 h0; simp only [i_lt, i_le, Int32.reduceToInt] at c32 c39 q; omega) | exact h0 (by simp only [i_lt, i_le, i_eq, ne_eq, Int32.reduceToInt, b2_0, b2_1, decide_eq_true_eq, decide_eq_false_iff_not, Bool.not_eq_true, Bool.not_eq_false, ek] at * <;> omega) (fun q => c25 q.1)
          · -- pc 35
            refine wq_l 36 d280_35 rfl rfl rfl rfl ?_
            refine wq_k 39 32767 d280_36 (by decide) rfl ?_
            refine wq_b 46 42 d280_39 rfl (by decide) rfl (fun c39 => ?_) (fun c39 => ?_)
            · -- pc 46
              refine wq_k 47 0 d280_46 (by decide) rfl ?_
              refine wq_ri d280_47 (rfl) ?_
              first | (exfalso; exact absurd c20 (by decide)) | (exfalso; subst c25x; exact absurd c12 (by decide)) | exact h31 (by simp only [i_lt, i_le, i_eq, ne_eq, Int32.reduceToInt, b2_0, b2_1, decide_eq_true_eq, decide_eq_false_iff_not, Bool.not_eq_true, Bool.not_eq_false, ek] at * <;> omega) | exact h1 (by clear h1 h0; subst c25x; simp only [i_eq, ek, Int32.reduceToInt] at c3 ⊢; omega) ⟨c25x, by clear h1 h0; simp only [i_lt, i_le, Int32.reduceToInt] at c32 ⊢; omega⟩ | exact h1 (by clear h1 h0; subst c25x; simp only [i_eq, ek, Int32.reduceToInt] at c3 ⊢; omega) ⟨c25x, by clear h1 h0; simp only [i_lt, i_le, Int32.reduceToInt] at c39 ⊢; omega⟩ | exact h0 (by clear h1 h0; subst c25x; simp only [i_eq, ek, Int32.reduceToInt] at c3 ⊢; omega) (fun q => by clear h1 h0; simp only [i_lt, i_le, Int32.reduceToInt] at c32 c39 q; omega) | exact h0 (by simp only [i_lt, i_le, i_eq, ne_eq, Int32.reduceToInt, b2_0, b2_1, decide_eq_true_eq, decide_eq_false_iff_not, Bool.not_eq_true, Bool.not_eq_false, ek] at * <;> omega) (fun q => c25 q.1)
            · -- pc 42
              refine wq_k 43 1 d280_42 (by decide) rfl ?_
              refine wq_g 47 d280_43 (by decide) ?_
              refine wq_ri d280_47 (rfl) ?_
              first | (exfalso; exact absurd c20 (by decide)) | (exfalso; subst c25x; exact absurd c12 (by decide)) | exact h31 (by simp only [i_lt, i_le, i_eq, ne_eq, Int32.reduceToInt, b2_0, b2_1, decide_eq_true_eq, decide_eq_false_iff_not, Bool.not_eq_true, Bool.not_eq_false, ek] at * <;> omega) | exact h1 (by clear h1 h0; subst c25x; simp only [i_eq, ek, Int32.reduceToInt] at c3 ⊢; omega) ⟨c25x, by clear h1 h0; simp only [i_lt, i_le, Int32.reduceToInt] at c32 ⊢; omega⟩ | exact h1 (by clear h1 h0; subst c25x; simp only [i_eq, ek, Int32.reduceToInt] at c3 ⊢; omega) ⟨c25x, by clear h1 h0; simp only [i_lt, i_le, Int32.reduceToInt] at c39 ⊢; omega⟩ | exact h0 (by clear h1 h0; subst c25x; simp only [i_eq, ek, Int32.reduceToInt] at c3 ⊢; omega) (fun q => by clear h1 h0; simp only [i_lt, i_le, Int32.reduceToInt] at c32 c39 q; omega) | exact h0 (by simp only [i_lt, i_le, i_eq, ne_eq, Int32.reduceToInt, b2_0, b2_1, decide_eq_true_eq, decide_eq_false_iff_not, Bool.not_eq_true, Bool.not_eq_false, ek] at * <;> omega) (fun q => c25 q.1)
