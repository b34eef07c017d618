theorem d1_0 : decode prog_1_method_2_code 0 = .ok (.aload_n 0, 1) := by decide +kernel
theorem d1_1 : decode prog_1_method_2_code 1 = .ok (.getfield 57, 3) := by decide +kernel
theorem d1_4 : decode prog_1_method_2_code 4 = .ok (.istore_n 1, 1) := by decide +kernel
theorem d1_5 : decode prog_1_method_2_code 5 = .ok (.aload_n 0, 1) := by decide +kernel
theorem d1_6 : decode prog_1_method_2_code 6 = .ok (.iconst 0, 1) := by decide +kernel
theorem d1_7 : decode prog_1_method_2_code 7 = .ok (.putfield 57, 3) := by decide +kernel
theorem d1_10 : decode prog_1_method_2_code 10 = .ok (.iload_n 1, 1) := by decide +kernel
theorem d1_11 : decode prog_1_method_2_code 11 = .ok (.ireturn, 1) := by decide +kernel
theorem m1 : pm_m 1 = some (⟨"TypeRules", "clear", "()I"⟩, prog_1_method_2_code, 2, (some FieldType.int), 0, 0, 1) := rfl
theorem sp1 {d : Nat} {σ : pm_S} {Q : Option Value → pm_S → Prop} (hQ : Q (some (.int (σ.1 0 6))) (pm_pi σ 0 6 0)) : pm_call pm_Y0 (d + 1) 1 [.ref 0] σ Q := by
  refine wq_m m1 (by decide) (by decide) rfl ?_
  refine wq_l 1 d1_0 rfl rfl rfl rfl ?_
  refine wq_gi (ci := 0) (j := 6) 4 d1_1 rfl rfl rfl rfl ?_
  refine wq_s 5 d1_4 rfl rfl (Nat.le_of_ble_eq_true rfl) rfl rfl ?_
  refine wq_l 6 d1_5 rfl rfl rfl rfl ?_
  refine wq_k 7 0 d1_6 (by decide) rfl ?_
  refine wq_pf (ci := 0) (j := 6) 10 d1_7 rfl rfl rfl ⟨rfl, rfl⟩ rfl ?_
  refine wq_l 11 d1_10 rfl rfl rfl rfl ?_
  refine wq_ri d1_11 (rfl) ?_
  exact hQ
theorem d196_0 : decode prog_14_method_3_code 0 = .ok (.aload_n 0, 1) := by decide +kernel
theorem d196_1 : decode prog_14_method_3_code 1 = .ok (.getfield 114, 3) := by decide +kernel
theorem d196_4 : decode prog_14_method_3_code 4 = .ok (.istore_n 1, 1) := by decide +kernel
theorem d196_5 : decode prog_14_method_3_code 5 = .ok (.aload_n 0, 1) := by decide +kernel
theorem d196_6 : decode prog_14_method_3_code 6 = .ok (.iconst 0, 1) := by decide +kernel
theorem d196_7 : decode prog_14_method_3_code 7 = .ok (.putfield 114, 3) := by decide +kernel
theorem d196_10 : decode prog_14_method_3_code 10 = .ok (.iload_n 1, 1) := by decide +kernel
theorem d196_11 : decode prog_14_method_3_code 11 = .ok (.ireturn, 1) := by decide +kernel
theorem m196 : pm_m 196 = some (⟨"TypeRulesModel", "clear", "()I"⟩, prog_14_method_3_code, 2, (some FieldType.int), 10, 0, 11) := rfl
theorem sp196 {d : Nat} {σ : pm_S} {Q : Option Value → pm_S → Prop} (hQ : Q (some (.int (σ.1 10 1))) (pm_pi σ 10 1 0)) : pm_call pm_Y0 (d + 1) 196 [.ref 10] σ Q := by
  refine wq_m m196 (by decide) (by decide) rfl ?_
  refine wq_l 1 d196_0 rfl rfl rfl rfl ?_
  refine wq_gi (ci := 10) (j := 1) 4 d196_1 rfl rfl rfl rfl ?_
  refine wq_s 5 d196_4 rfl rfl (Nat.le_of_ble_eq_true rfl) rfl rfl ?_
  refine wq_l 6 d196_5 rfl rfl rfl rfl ?_
  refine wq_k 7 0 d196_6 (by decide) rfl ?_
  refine wq_pf (ci := 10) (j := 1) 10 d196_7 rfl rfl rfl ⟨rfl, rfl⟩ rfl ?_
  refine wq_l 11 d196_10 rfl rfl rfl rfl ?_
  refine wq_ri d196_11 (rfl) ?_
  exact hQ
