/-! THE FACE, but judge: the reference -/
theorem d316_0 : decode prog_14_method_122_code 0 = .ok (.iload_n 1, 1) := by decide +kernel
theorem d316_1 : decode prog_14_method_122_code 1 = .ok (.ifCond .lt 15, 3) := by decide +kernel
theorem d316_4 : decode prog_14_method_122_code 4 = .ok (.iload_n 1, 1) := by decide +kernel
theorem d316_5 : decode prog_14_method_122_code 5 = .ok (.aload_n 0, 1) := by decide +kernel
theorem d316_6 : decode prog_14_method_122_code 6 = .ok (.getfield 720, 3) := by decide +kernel
theorem d316_9 : decode prog_14_method_122_code 9 = .ok (.if_icmp .ge 7, 3) := by decide +kernel
theorem d316_12 : decode prog_14_method_122_code 12 = .ok (.iconst 1, 1) := by decide +kernel
theorem d316_13 : decode prog_14_method_122_code 13 = .ok (.goto 4, 3) := by decide +kernel
theorem d316_16 : decode prog_14_method_122_code 16 = .ok (.iconst 0, 1) := by decide +kernel
theorem d316_17 : decode prog_14_method_122_code 17 = .ok (.ireturn, 1) := by decide +kernel
theorem m316 : pm_m 316 = some (⟨"TypeRulesModel", "isNode", "(I)Z"⟩, prog_14_method_122_code, 2, (some FieldType.boolean), 10, 1, 11) := rfl
theorem sp316 {d : Nat} {σ : pm_S} {Q : Option Value → pm_S → Prop} {x : Int32} (h1 : 0 ≤ x → x < σ.1 10 54 → Q (some (.int 1)) σ) (h2 : ¬ (0 ≤ x ∧ x < σ.1 10 54) → Q (some (.int 0)) σ) : pm_call pm_Y0 (d + 1) 316 [.ref 10, .int x] σ Q := by
  refine wq_m m316 (Nat.le_of_ble_eq_true rfl) (by decide) rfl ?_
  refine wq_l 1 d316_0 rfl rfl rfl rfl ?_
  refine wq_b 16 4 d316_1 rfl (by decide) rfl (fun c1 => ?_) (fun c1 => ?_)
  · -- pc 16
    refine wq_k 17 0 d316_16 (by decide) rfl ?_
    refine wq_ri d316_17 (by decide) ?_
    first | exact h1 (Int32.not_lt.mp (by assumption)) (Int32.not_le.mp (by assumption)) | exact h2 (fun q => absurd q.1 (Int32.not_le.mpr (by assumption))) | exact h2 (fun q => absurd q.2 (Int32.not_lt.mpr (by assumption)))
  · -- pc 4
    refine wq_l 5 d316_4 rfl rfl rfl rfl ?_
    refine wq_l 6 d316_5 rfl rfl rfl rfl ?_
    refine wq_gi (ci := 10) (j := 54) 9 d316_6 rfl rfl rfl rfl ?_
    refine wq_b 16 12 d316_9 rfl (by decide) rfl (fun c9 => ?_) (fun c9 => ?_)
    · -- pc 16
      refine wq_k 17 0 d316_16 (by decide) rfl ?_
      refine wq_ri d316_17 (by decide) ?_
      first | exact h1 (Int32.not_lt.mp (by assumption)) (Int32.not_le.mp (by assumption)) | exact h2 (fun q => absurd q.1 (Int32.not_le.mpr (by assumption))) | exact h2 (fun q => absurd q.2 (Int32.not_lt.mpr (by assumption)))
    · -- pc 12
      refine wq_k 13 1 d316_12 (by decide) rfl ?_
      refine wq_g 17 d316_13 (by decide) ?_
      refine wq_ri d316_17 (by decide) ?_
      first | exact h1 (Int32.not_lt.mp (by assumption)) (Int32.not_le.mp (by assumption)) | exact h2 (fun q => absurd q.1 (Int32.not_le.mpr (by assumption))) | exact h2 (fun q => absurd q.2 (Int32.not_lt.mpr (by assumption)))
theorem d315_0 : decode prog_14_method_123_code 0 = .ok (.aload_n 0, 1) := by decide +kernel
theorem d315_1 : decode prog_14_method_123_code 1 = .ok (.iload_n 1, 1) := by decide +kernel
theorem d315_2 : decode prog_14_method_123_code 2 = .ok (.invokevirtual 723, 3) := by decide +kernel
theorem d315_5 : decode prog_14_method_123_code 5 = .ok (.ifCond .eq 17, 3) := by decide +kernel
theorem d315_8 : decode prog_14_method_123_code 8 = .ok (.aload_n 0, 1) := by decide +kernel
theorem d315_9 : decode prog_14_method_123_code 9 = .ok (.getfield 29, 3) := by decide +kernel
theorem d315_12 : decode prog_14_method_123_code 12 = .ok (.aload_n 0, 1) := by decide +kernel
theorem d315_13 : decode prog_14_method_123_code 13 = .ok (.getfield 111, 3) := by decide +kernel
theorem d315_16 : decode prog_14_method_123_code 16 = .ok (.iload_n 1, 1) := by decide +kernel
theorem d315_17 : decode prog_14_method_123_code 17 = .ok (.iaload, 1) := by decide +kernel
theorem d315_18 : decode prog_14_method_123_code 18 = .ok (.iaload, 1) := by decide +kernel
theorem d315_19 : decode prog_14_method_123_code 19 = .ok (.goto 4, 3) := by decide +kernel
theorem d315_22 : decode prog_14_method_123_code 22 = .ok (.iconst (-1), 1) := by decide +kernel
theorem d315_23 : decode prog_14_method_123_code 23 = .ok (.ireturn, 1) := by decide +kernel
theorem m315 : pm_m 315 = some (⟨"TypeRulesModel", "kind", "(I)I"⟩, prog_14_method_123_code, 2, (some FieldType.int), 10, 1, 11) := rfl
theorem sp315 {d : Nat} {σ : pm_S} {Q : Option Value → pm_S → Prop} {x : Int32} (hc : σ.1 10 54 ≤ 20000) (ho : 0 ≤ x → x < σ.1 10 54 → vp_in (σ.2.2 75 x.toNatClampNeg) 20000) (h1 : 0 ≤ x → x < σ.1 10 54 → Q (some (.int (σ.2.2 49 (σ.2.2 75 x.toNatClampNeg).toNatClampNeg))) σ) (h2 : ¬ (0 ≤ x ∧ x < σ.1 10 54) → Q (some (.int (-1))) σ) : pm_call pm_Y0 (d + 2) 315 [.ref 10, .int x] σ Q := by
  refine wq_m m315 (Nat.le_of_ble_eq_true rfl) (by decide) rfl ?_
  refine wq_l 1 d315_0 rfl rfl rfl rfl ?_
  refine wq_l 2 d315_1 rfl rfl rfl rfl ?_
  refine wq_v 5 [_] d315_2 rfl rfl m316 rfl rfl (by decide) rfl (sp316 (fun a1 a2 => ?_) (fun a1 => ?_))
  · -- in
    refine wq_b 22 8 d315_5 rfl (by decide) rfl (fun c5 => absurd c5 (by decide)) (fun c5 => ?_)
    refine wq_l 9 d315_8 rfl rfl rfl rfl ?_
    refine wq_gr (ci := 10) (j := 16) (q := 49) 12 d315_9 rfl rfl rfl rfl ?_
    refine wq_l 13 d315_12 rfl rfl rfl rfl ?_
    refine wq_gr (ci := 10) (j := 53) (q := 75) 16 d315_13 rfl rfl rfl rfl ?_
    refine wq_l 17 d315_16 rfl rfl rfl rfl ?_
    refine wq_al 18 d315_17 rfl rfl rfl (vp_in_lt a1 a2 hc (by decide)) ?_
    refine wq_al 19 d315_18 rfl rfl rfl (ho a1 a2) ?_
    refine wq_g 23 d315_19 (by decide) ?_
    refine wq_ri d315_23 (rfl) ?_
    exact h1 a1 a2
  · -- out
    refine wq_b 22 8 d315_5 rfl (by decide) rfl (fun c5 => ?_) (fun c5 => absurd (rfl) c5)
    refine wq_k 23 (-1) d315_22 (by decide) rfl ?_
    refine wq_ri d315_23 (rfl) ?_
    exact h2 a1
theorem d317_0 : decode prog_14_method_124_code 0 = .ok (.aload_n 0, 1) := by decide +kernel
theorem d317_1 : decode prog_14_method_124_code 1 = .ok (.iload_n 1, 1) := by decide +kernel
theorem d317_2 : decode prog_14_method_124_code 2 = .ok (.invokevirtual 723, 3) := by decide +kernel
theorem d317_5 : decode prog_14_method_124_code 5 = .ok (.ifCond .eq 17, 3) := by decide +kernel
theorem d317_8 : decode prog_14_method_124_code 8 = .ok (.aload_n 0, 1) := by decide +kernel
theorem d317_9 : decode prog_14_method_124_code 9 = .ok (.getfield 50, 3) := by decide +kernel
theorem d317_12 : decode prog_14_method_124_code 12 = .ok (.aload_n 0, 1) := by decide +kernel
theorem d317_13 : decode prog_14_method_124_code 13 = .ok (.getfield 111, 3) := by decide +kernel
theorem d317_16 : decode prog_14_method_124_code 16 = .ok (.iload_n 1, 1) := by decide +kernel
theorem d317_17 : decode prog_14_method_124_code 17 = .ok (.iaload, 1) := by decide +kernel
theorem d317_18 : decode prog_14_method_124_code 18 = .ok (.iaload, 1) := by decide +kernel
theorem d317_19 : decode prog_14_method_124_code 19 = .ok (.goto 4, 3) := by decide +kernel
theorem d317_22 : decode prog_14_method_124_code 22 = .ok (.iconst (-1), 1) := by decide +kernel
theorem d317_23 : decode prog_14_method_124_code 23 = .ok (.ireturn, 1) := by decide +kernel
theorem m317 : pm_m 317 = some (⟨"TypeRulesModel", "type", "(I)I"⟩, prog_14_method_124_code, 2, (some FieldType.int), 10, 1, 11) := rfl
theorem sp317 {d : Nat} {σ : pm_S} {Q : Option Value → pm_S → Prop} {x : Int32} (hc : σ.1 10 54 ≤ 20000) (ho : 0 ≤ x → x < σ.1 10 54 → vp_in (σ.2.2 75 x.toNatClampNeg) 20000) (h1 : 0 ≤ x → x < σ.1 10 54 → Q (some (.int (σ.2.2 56 (σ.2.2 75 x.toNatClampNeg).toNatClampNeg))) σ) (h2 : ¬ (0 ≤ x ∧ x < σ.1 10 54) → Q (some (.int (-1))) σ) : pm_call pm_Y0 (d + 2) 317 [.ref 10, .int x] σ Q := by
  refine wq_m m317 (Nat.le_of_ble_eq_true rfl) (by decide) rfl ?_
  refine wq_l 1 d317_0 rfl rfl rfl rfl ?_
  refine wq_l 2 d317_1 rfl rfl rfl rfl ?_
  refine wq_v 5 [_] d317_2 rfl rfl m316 rfl rfl (by decide) rfl (sp316 (fun a1 a2 => ?_) (fun a1 => ?_))
  · -- in
    refine wq_b 22 8 d317_5 rfl (by decide) rfl (fun c5 => absurd c5 (by decide)) (fun c5 => ?_)
    refine wq_l 9 d317_8 rfl rfl rfl rfl ?_
    refine wq_gr (ci := 10) (j := 23) (q := 56) 12 d317_9 rfl rfl rfl rfl ?_
    refine wq_l 13 d317_12 rfl rfl rfl rfl ?_
    refine wq_gr (ci := 10) (j := 53) (q := 75) 16 d317_13 rfl rfl rfl rfl ?_
    refine wq_l 17 d317_16 rfl rfl rfl rfl ?_
    refine wq_al 18 d317_17 rfl rfl rfl (vp_in_lt a1 a2 hc (by decide)) ?_
    refine wq_al 19 d317_18 rfl rfl rfl (ho a1 a2) ?_
    refine wq_g 23 d317_19 (by decide) ?_
    refine wq_ri d317_23 (rfl) ?_
    exact h1 a1 a2
  · -- out
    refine wq_b 22 8 d317_5 rfl (by decide) rfl (fun c5 => ?_) (fun c5 => absurd (rfl) c5)
    refine wq_k 23 (-1) d317_22 (by decide) rfl ?_
    refine wq_ri d317_23 (rfl) ?_
    exact h2 a1
theorem d318_0 : decode prog_14_method_125_code 0 = .ok (.aload_n 0, 1) := by decide +kernel
theorem d318_1 : decode prog_14_method_125_code 1 = .ok (.iload_n 1, 1) := by decide +kernel
theorem d318_2 : decode prog_14_method_125_code 2 = .ok (.invokevirtual 723, 3) := by decide +kernel
theorem d318_5 : decode prog_14_method_125_code 5 = .ok (.ifCond .eq 17, 3) := by decide +kernel
theorem d318_8 : decode prog_14_method_125_code 8 = .ok (.aload_n 0, 1) := by decide +kernel
theorem d318_9 : decode prog_14_method_125_code 9 = .ok (.getfield 53, 3) := by decide +kernel
theorem d318_12 : decode prog_14_method_125_code 12 = .ok (.aload_n 0, 1) := by decide +kernel
theorem d318_13 : decode prog_14_method_125_code 13 = .ok (.getfield 111, 3) := by decide +kernel
theorem d318_16 : decode prog_14_method_125_code 16 = .ok (.iload_n 1, 1) := by decide +kernel
theorem d318_17 : decode prog_14_method_125_code 17 = .ok (.iaload, 1) := by decide +kernel
theorem d318_18 : decode prog_14_method_125_code 18 = .ok (.iaload, 1) := by decide +kernel
theorem d318_19 : decode prog_14_method_125_code 19 = .ok (.goto 4, 3) := by decide +kernel
theorem d318_22 : decode prog_14_method_125_code 22 = .ok (.iconst (-1), 1) := by decide +kernel
theorem d318_23 : decode prog_14_method_125_code 23 = .ok (.ireturn, 1) := by decide +kernel
theorem m318 : pm_m 318 = some (⟨"TypeRulesModel", "cell", "(I)I"⟩, prog_14_method_125_code, 2, (some FieldType.int), 10, 1, 11) := rfl
theorem sp318 {d : Nat} {σ : pm_S} {Q : Option Value → pm_S → Prop} {x : Int32} (hc : σ.1 10 54 ≤ 20000) (ho : 0 ≤ x → x < σ.1 10 54 → vp_in (σ.2.2 75 x.toNatClampNeg) 20000) (h1 : 0 ≤ x → x < σ.1 10 54 → Q (some (.int (σ.2.2 57 (σ.2.2 75 x.toNatClampNeg).toNatClampNeg))) σ) (h2 : ¬ (0 ≤ x ∧ x < σ.1 10 54) → Q (some (.int (-1))) σ) : pm_call pm_Y0 (d + 2) 318 [.ref 10, .int x] σ Q := by
  refine wq_m m318 (Nat.le_of_ble_eq_true rfl) (by decide) rfl ?_
  refine wq_l 1 d318_0 rfl rfl rfl rfl ?_
  refine wq_l 2 d318_1 rfl rfl rfl rfl ?_
  refine wq_v 5 [_] d318_2 rfl rfl m316 rfl rfl (by decide) rfl (sp316 (fun a1 a2 => ?_) (fun a1 => ?_))
  · -- in
    refine wq_b 22 8 d318_5 rfl (by decide) rfl (fun c5 => absurd c5 (by decide)) (fun c5 => ?_)
    refine wq_l 9 d318_8 rfl rfl rfl rfl ?_
    refine wq_gr (ci := 10) (j := 24) (q := 57) 12 d318_9 rfl rfl rfl rfl ?_
    refine wq_l 13 d318_12 rfl rfl rfl rfl ?_
    refine wq_gr (ci := 10) (j := 53) (q := 75) 16 d318_13 rfl rfl rfl rfl ?_
    refine wq_l 17 d318_16 rfl rfl rfl rfl ?_
    refine wq_al 18 d318_17 rfl rfl rfl (vp_in_lt a1 a2 hc (by decide)) ?_
    refine wq_al 19 d318_18 rfl rfl rfl (ho a1 a2) ?_
    refine wq_g 23 d318_19 (by decide) ?_
    refine wq_ri d318_23 (rfl) ?_
    exact h1 a1 a2
  · -- out
    refine wq_b 22 8 d318_5 rfl (by decide) rfl (fun c5 => ?_) (fun c5 => absurd (rfl) c5)
    refine wq_k 23 (-1) d318_22 (by decide) rfl ?_
    refine wq_ri d318_23 (rfl) ?_
    exact h2 a1
theorem d319_0 : decode prog_14_method_126_code 0 = .ok (.aload_n 0, 1) := by decide +kernel
theorem d319_1 : decode prog_14_method_126_code 1 = .ok (.iload_n 1, 1) := by decide +kernel
theorem d319_2 : decode prog_14_method_126_code 2 = .ok (.invokevirtual 723, 3) := by decide +kernel
theorem d319_5 : decode prog_14_method_126_code 5 = .ok (.ifCond .eq 17, 3) := by decide +kernel
theorem d319_8 : decode prog_14_method_126_code 8 = .ok (.aload_n 0, 1) := by decide +kernel
theorem d319_9 : decode prog_14_method_126_code 9 = .ok (.getfield 56, 3) := by decide +kernel
theorem d319_12 : decode prog_14_method_126_code 12 = .ok (.aload_n 0, 1) := by decide +kernel
theorem d319_13 : decode prog_14_method_126_code 13 = .ok (.getfield 111, 3) := by decide +kernel
theorem d319_16 : decode prog_14_method_126_code 16 = .ok (.iload_n 1, 1) := by decide +kernel
theorem d319_17 : decode prog_14_method_126_code 17 = .ok (.iaload, 1) := by decide +kernel
theorem d319_18 : decode prog_14_method_126_code 18 = .ok (.iaload, 1) := by decide +kernel
theorem d319_19 : decode prog_14_method_126_code 19 = .ok (.goto 4, 3) := by decide +kernel
theorem d319_22 : decode prog_14_method_126_code 22 = .ok (.iconst (-1), 1) := by decide +kernel
theorem d319_23 : decode prog_14_method_126_code 23 = .ok (.ireturn, 1) := by decide +kernel
theorem m319 : pm_m 319 = some (⟨"TypeRulesModel", "meaning", "(I)I"⟩, prog_14_method_126_code, 2, (some FieldType.int), 10, 1, 11) := rfl
theorem sp319 {d : Nat} {σ : pm_S} {Q : Option Value → pm_S → Prop} {x : Int32} (hc : σ.1 10 54 ≤ 20000) (ho : 0 ≤ x → x < σ.1 10 54 → vp_in (σ.2.2 75 x.toNatClampNeg) 20000) (h1 : 0 ≤ x → x < σ.1 10 54 → Q (some (.int (σ.2.2 58 (σ.2.2 75 x.toNatClampNeg).toNatClampNeg))) σ) (h2 : ¬ (0 ≤ x ∧ x < σ.1 10 54) → Q (some (.int (-1))) σ) : pm_call pm_Y0 (d + 2) 319 [.ref 10, .int x] σ Q := by
  refine wq_m m319 (Nat.le_of_ble_eq_true rfl) (by decide) rfl ?_
  refine wq_l 1 d319_0 rfl rfl rfl rfl ?_
  refine wq_l 2 d319_1 rfl rfl rfl rfl ?_
  refine wq_v 5 [_] d319_2 rfl rfl m316 rfl rfl (by decide) rfl (sp316 (fun a1 a2 => ?_) (fun a1 => ?_))
  · -- in
    refine wq_b 22 8 d319_5 rfl (by decide) rfl (fun c5 => absurd c5 (by decide)) (fun c5 => ?_)
    refine wq_l 9 d319_8 rfl rfl rfl rfl ?_
    refine wq_gr (ci := 10) (j := 25) (q := 58) 12 d319_9 rfl rfl rfl rfl ?_
    refine wq_l 13 d319_12 rfl rfl rfl rfl ?_
    refine wq_gr (ci := 10) (j := 53) (q := 75) 16 d319_13 rfl rfl rfl rfl ?_
    refine wq_l 17 d319_16 rfl rfl rfl rfl ?_
    refine wq_al 18 d319_17 rfl rfl rfl (vp_in_lt a1 a2 hc (by decide)) ?_
    refine wq_al 19 d319_18 rfl rfl rfl (ho a1 a2) ?_
    refine wq_g 23 d319_19 (by decide) ?_
    refine wq_ri d319_23 (rfl) ?_
    exact h1 a1 a2
  · -- out
    refine wq_b 22 8 d319_5 rfl (by decide) rfl (fun c5 => ?_) (fun c5 => absurd (rfl) c5)
    refine wq_k 23 (-1) d319_22 (by decide) rfl ?_
    refine wq_ri d319_23 (rfl) ?_
    exact h2 a1
theorem d320_0 : decode prog_14_method_127_code 0 = .ok (.aload_n 0, 1) := by decide +kernel
theorem d320_1 : decode prog_14_method_127_code 1 = .ok (.getfield 713, 3) := by decide +kernel
theorem d320_4 : decode prog_14_method_127_code 4 = .ok (.ifCond .eq 24, 3) := by decide +kernel
theorem d320_7 : decode prog_14_method_127_code 7 = .ok (.iload_n 1, 1) := by decide +kernel
theorem d320_8 : decode prog_14_method_127_code 8 = .ok (.ifCond .lt 20, 3) := by decide +kernel
theorem d320_11 : decode prog_14_method_127_code 11 = .ok (.iload_n 1, 1) := by decide +kernel
theorem d320_12 : decode prog_14_method_127_code 12 = .ok (.aload_n 0, 1) := by decide +kernel
theorem d320_13 : decode prog_14_method_127_code 13 = .ok (.getfield 542, 3) := by decide +kernel
theorem d320_16 : decode prog_14_method_127_code 16 = .ok (.if_icmp .ge 12, 3) := by decide +kernel
theorem d320_19 : decode prog_14_method_127_code 19 = .ok (.aload_n 0, 1) := by decide +kernel
theorem d320_20 : decode prog_14_method_127_code 20 = .ok (.getfield 83, 3) := by decide +kernel
theorem d320_23 : decode prog_14_method_127_code 23 = .ok (.iload_n 1, 1) := by decide +kernel
theorem d320_24 : decode prog_14_method_127_code 24 = .ok (.iaload, 1) := by decide +kernel
theorem d320_25 : decode prog_14_method_127_code 25 = .ok (.goto 4, 3) := by decide +kernel
theorem d320_28 : decode prog_14_method_127_code 28 = .ok (.iconst (-1), 1) := by decide +kernel
theorem d320_29 : decode prog_14_method_127_code 29 = .ok (.ireturn, 1) := by decide +kernel
theorem m320 : pm_m 320 = some (⟨"TypeRulesModel", "frame", "(I)I"⟩, prog_14_method_127_code, 2, (some FieldType.int), 10, 1, 11) := rfl
theorem sp320 {d : Nat} {σ : pm_S} {Q : Option Value → pm_S → Prop} {x : Int32} (hc : σ.1 10 35 ≤ 800) (h1 : ¬ σ.1 10 50 = 0 → 0 ≤ x → x < σ.1 10 35 → Q (some (.int (σ.2.2 67 x.toNatClampNeg))) σ) (h2 : ¬ (¬ σ.1 10 50 = 0 ∧ 0 ≤ x ∧ x < σ.1 10 35) → Q (some (.int (-1))) σ) : pm_call pm_Y0 (d + 1) 320 [.ref 10, .int x] σ Q := by
  refine wq_m m320 (Nat.le_of_ble_eq_true rfl) (by decide) rfl ?_
  refine wq_l 1 d320_0 rfl rfl rfl rfl ?_
  refine wq_gi (ci := 10) (j := 50) 4 d320_1 rfl rfl rfl rfl ?_
  refine wq_b 28 7 d320_4 rfl (by decide) rfl (fun c4 => ?_) (fun c4 => ?_)
  · -- pc 28
    refine wq_k 29 (-1) d320_28 (by decide) rfl ?_
    refine wq_ri d320_29 (rfl) ?_
    first | exact h1 (by assumption) (Int32.not_lt.mp (by assumption)) (Int32.not_le.mp (by assumption)) | exact h2 (fun q => absurd (by assumption) q.1) | exact h2 (fun q => absurd q.2.1 (Int32.not_le.mpr (by assumption))) | exact h2 (fun q => absurd q.2.2 (Int32.not_lt.mpr (by assumption)))
  · -- pc 7
    refine wq_l 8 d320_7 rfl rfl rfl rfl ?_
    refine wq_b 28 11 d320_8 rfl (by decide) rfl (fun c8 => ?_) (fun c8 => ?_)
    · -- pc 28
      refine wq_k 29 (-1) d320_28 (by decide) rfl ?_
      refine wq_ri d320_29 (rfl) ?_
      first | exact h1 (by assumption) (Int32.not_lt.mp (by assumption)) (Int32.not_le.mp (by assumption)) | exact h2 (fun q => absurd (by assumption) q.1) | exact h2 (fun q => absurd q.2.1 (Int32.not_le.mpr (by assumption))) | exact h2 (fun q => absurd q.2.2 (Int32.not_lt.mpr (by assumption)))
    · -- pc 11
      refine wq_l 12 d320_11 rfl rfl rfl rfl ?_
      refine wq_l 13 d320_12 rfl rfl rfl rfl ?_
      refine wq_gi (ci := 10) (j := 35) 16 d320_13 rfl rfl rfl rfl ?_
      refine wq_b 28 19 d320_16 rfl (by decide) rfl (fun c16 => ?_) (fun c16 => ?_)
      · -- pc 28
        refine wq_k 29 (-1) d320_28 (by decide) rfl ?_
        refine wq_ri d320_29 (rfl) ?_
        first | exact h1 (by assumption) (Int32.not_lt.mp (by assumption)) (Int32.not_le.mp (by assumption)) | exact h2 (fun q => absurd (by assumption) q.1) | exact h2 (fun q => absurd q.2.1 (Int32.not_le.mpr (by assumption))) | exact h2 (fun q => absurd q.2.2 (Int32.not_lt.mpr (by assumption)))
      · -- pc 19
        refine wq_l 20 d320_19 rfl rfl rfl rfl ?_
        refine wq_gr (ci := 10) (j := 39) (q := 67) 23 d320_20 rfl rfl rfl rfl ?_
        refine wq_l 24 d320_23 rfl rfl rfl rfl ?_
        refine wq_al 25 d320_24 rfl rfl rfl (vp_in_lt (Int32.not_lt.mp c8) (Int32.not_le.mp c16) hc (by decide)) ?_
        refine wq_g 29 d320_25 (by decide) ?_
        refine wq_ri d320_29 (rfl) ?_
        first | exact h1 (by assumption) (Int32.not_lt.mp (by assumption)) (Int32.not_le.mp (by assumption)) | exact h2 (fun q => absurd (by assumption) q.1) | exact h2 (fun q => absurd q.2.1 (Int32.not_le.mpr (by assumption))) | exact h2 (fun q => absurd q.2.2 (Int32.not_lt.mpr (by assumption)))
theorem d321_0 : decode prog_14_method_128_code 0 = .ok (.aload_n 0, 1) := by decide +kernel
theorem d321_1 : decode prog_14_method_128_code 1 = .ok (.getfield 713, 3) := by decide +kernel
theorem d321_4 : decode prog_14_method_128_code 4 = .ok (.ifCond .eq 24, 3) := by decide +kernel
theorem d321_7 : decode prog_14_method_128_code 7 = .ok (.iload_n 1, 1) := by decide +kernel
theorem d321_8 : decode prog_14_method_128_code 8 = .ok (.ifCond .lt 20, 3) := by decide +kernel
theorem d321_11 : decode prog_14_method_128_code 11 = .ok (.iload_n 1, 1) := by decide +kernel
theorem d321_12 : decode prog_14_method_128_code 12 = .ok (.aload_n 0, 1) := by decide +kernel
theorem d321_13 : decode prog_14_method_128_code 13 = .ok (.getfield 542, 3) := by decide +kernel
theorem d321_16 : decode prog_14_method_128_code 16 = .ok (.if_icmp .ge 12, 3) := by decide +kernel
theorem d321_19 : decode prog_14_method_128_code 19 = .ok (.aload_n 0, 1) := by decide +kernel
theorem d321_20 : decode prog_14_method_128_code 20 = .ok (.getfield 86, 3) := by decide +kernel
theorem d321_23 : decode prog_14_method_128_code 23 = .ok (.iload_n 1, 1) := by decide +kernel
theorem d321_24 : decode prog_14_method_128_code 24 = .ok (.iaload, 1) := by decide +kernel
theorem d321_25 : decode prog_14_method_128_code 25 = .ok (.goto 4, 3) := by decide +kernel
theorem d321_28 : decode prog_14_method_128_code 28 = .ok (.iconst (-1), 1) := by decide +kernel
theorem d321_29 : decode prog_14_method_128_code 29 = .ok (.ireturn, 1) := by decide +kernel
theorem m321 : pm_m 321 = some (⟨"TypeRulesModel", "place", "(I)I"⟩, prog_14_method_128_code, 2, (some FieldType.int), 10, 1, 11) := rfl
theorem sp321 {d : Nat} {σ : pm_S} {Q : Option Value → pm_S → Prop} {x : Int32} (hc : σ.1 10 35 ≤ 800) (h1 : ¬ σ.1 10 50 = 0 → 0 ≤ x → x < σ.1 10 35 → Q (some (.int (σ.2.2 68 x.toNatClampNeg))) σ) (h2 : ¬ (¬ σ.1 10 50 = 0 ∧ 0 ≤ x ∧ x < σ.1 10 35) → Q (some (.int (-1))) σ) : pm_call pm_Y0 (d + 1) 321 [.ref 10, .int x] σ Q := by
  refine wq_m m321 (Nat.le_of_ble_eq_true rfl) (by decide) rfl ?_
  refine wq_l 1 d321_0 rfl rfl rfl rfl ?_
  refine wq_gi (ci := 10) (j := 50) 4 d321_1 rfl rfl rfl rfl ?_
  refine wq_b 28 7 d321_4 rfl (by decide) rfl (fun c4 => ?_) (fun c4 => ?_)
  · -- pc 28
    refine wq_k 29 (-1) d321_28 (by decide) rfl ?_
    refine wq_ri d321_29 (rfl) ?_
    first | exact h1 (by assumption) (Int32.not_lt.mp (by assumption)) (Int32.not_le.mp (by assumption)) | exact h2 (fun q => absurd (by assumption) q.1) | exact h2 (fun q => absurd q.2.1 (Int32.not_le.mpr (by assumption))) | exact h2 (fun q => absurd q.2.2 (Int32.not_lt.mpr (by assumption)))
  · -- pc 7
    refine wq_l 8 d321_7 rfl rfl rfl rfl ?_
    refine wq_b 28 11 d321_8 rfl (by decide) rfl (fun c8 => ?_) (fun c8 => ?_)
    · -- pc 28
      refine wq_k 29 (-1) d321_28 (by decide) rfl ?_
      refine wq_ri d321_29 (rfl) ?_
      first | exact h1 (by assumption) (Int32.not_lt.mp (by assumption)) (Int32.not_le.mp (by assumption)) | exact h2 (fun q => absurd (by assumption) q.1) | exact h2 (fun q => absurd q.2.1 (Int32.not_le.mpr (by assumption))) | exact h2 (fun q => absurd q.2.2 (Int32.not_lt.mpr (by assumption)))
    · -- pc 11
      refine wq_l 12 d321_11 rfl rfl rfl rfl ?_
      refine wq_l 13 d321_12 rfl rfl rfl rfl ?_
      refine wq_gi (ci := 10) (j := 35) 16 d321_13 rfl rfl rfl rfl ?_
      refine wq_b 28 19 d321_16 rfl (by decide) rfl (fun c16 => ?_) (fun c16 => ?_)
      · -- pc 28
        refine wq_k 29 (-1) d321_28 (by decide) rfl ?_
        refine wq_ri d321_29 (rfl) ?_
        first | exact h1 (by assumption) (Int32.not_lt.mp (by assumption)) (Int32.not_le.mp (by assumption)) | exact h2 (fun q => absurd (by assumption) q.1) | exact h2 (fun q => absurd q.2.1 (Int32.not_le.mpr (by assumption))) | exact h2 (fun q => absurd q.2.2 (Int32.not_lt.mpr (by assumption)))
      · -- pc 19
        refine wq_l 20 d321_19 rfl rfl rfl rfl ?_
        refine wq_gr (ci := 10) (j := 40) (q := 68) 23 d321_20 rfl rfl rfl rfl ?_
        refine wq_l 24 d321_23 rfl rfl rfl rfl ?_
        refine wq_al 25 d321_24 rfl rfl rfl (vp_in_lt (Int32.not_lt.mp c8) (Int32.not_le.mp c16) hc (by decide)) ?_
        refine wq_g 29 d321_25 (by decide) ?_
        refine wq_ri d321_29 (rfl) ?_
        first | exact h1 (by assumption) (Int32.not_lt.mp (by assumption)) (Int32.not_le.mp (by assumption)) | exact h2 (fun q => absurd (by assumption) q.1) | exact h2 (fun q => absurd q.2.1 (Int32.not_le.mpr (by assumption))) | exact h2 (fun q => absurd q.2.2 (Int32.not_lt.mpr (by assumption)))
theorem d314_0 : decode prog_14_method_121_code 0 = .ok (.iload_n 1, 1) := by decide +kernel
theorem d314_1 : decode prog_14_method_121_code 1 = .ok (.tableswitch 82 0 4 #[35, 40, 45, 50, 66], 35) := by decide +kernel
theorem d314_36 : decode prog_14_method_121_code 36 = .ok (.aload_n 0, 1) := by decide +kernel
theorem d314_37 : decode prog_14_method_121_code 37 = .ok (.getfield 717, 3) := by decide +kernel
theorem d314_40 : decode prog_14_method_121_code 40 = .ok (.ireturn, 1) := by decide +kernel
theorem d314_41 : decode prog_14_method_121_code 41 = .ok (.aload_n 0, 1) := by decide +kernel
theorem d314_42 : decode prog_14_method_121_code 42 = .ok (.getfield 107, 3) := by decide +kernel
theorem d314_45 : decode prog_14_method_121_code 45 = .ok (.ireturn, 1) := by decide +kernel
theorem d314_46 : decode prog_14_method_121_code 46 = .ok (.aload_n 0, 1) := by decide +kernel
theorem d314_47 : decode prog_14_method_121_code 47 = .ok (.getfield 720, 3) := by decide +kernel
theorem d314_50 : decode prog_14_method_121_code 50 = .ok (.ireturn, 1) := by decide +kernel
theorem d314_51 : decode prog_14_method_121_code 51 = .ok (.aload_n 0, 1) := by decide +kernel
theorem d314_52 : decode prog_14_method_121_code 52 = .ok (.getfield 713, 3) := by decide +kernel
theorem d314_55 : decode prog_14_method_121_code 55 = .ok (.ifCond .eq 10, 3) := by decide +kernel
theorem d314_58 : decode prog_14_method_121_code 58 = .ok (.aload_n 0, 1) := by decide +kernel
theorem d314_59 : decode prog_14_method_121_code 59 = .ok (.getfield 542, 3) := by decide +kernel
theorem d314_62 : decode prog_14_method_121_code 62 = .ok (.goto 4, 3) := by decide +kernel
theorem d314_65 : decode prog_14_method_121_code 65 = .ok (.iconst 0, 1) := by decide +kernel
theorem d314_66 : decode prog_14_method_121_code 66 = .ok (.ireturn, 1) := by decide +kernel
theorem d314_67 : decode prog_14_method_121_code 67 = .ok (.aload_n 0, 1) := by decide +kernel
theorem d314_68 : decode prog_14_method_121_code 68 = .ok (.getfield 713, 3) := by decide +kernel
theorem d314_71 : decode prog_14_method_121_code 71 = .ok (.ifCond .eq 10, 3) := by decide +kernel
theorem d314_74 : decode prog_14_method_121_code 74 = .ok (.aload_n 0, 1) := by decide +kernel
theorem d314_75 : decode prog_14_method_121_code 75 = .ok (.getfield 635, 3) := by decide +kernel
theorem d314_78 : decode prog_14_method_121_code 78 = .ok (.goto 4, 3) := by decide +kernel
theorem d314_81 : decode prog_14_method_121_code 81 = .ok (.iconst 0, 1) := by decide +kernel
theorem d314_82 : decode prog_14_method_121_code 82 = .ok (.ireturn, 1) := by decide +kernel
theorem d314_83 : decode prog_14_method_121_code 83 = .ok (.iconst (-1), 1) := by decide +kernel
theorem d314_84 : decode prog_14_method_121_code 84 = .ok (.ireturn, 1) := by decide +kernel
theorem m314 : pm_m 314 = some (⟨"TypeRulesModel", "count", "(I)I"⟩, prog_14_method_121_code, 2, (some FieldType.int), 10, 1, 11) := rfl
theorem sp314 {d : Nat} {σ : pm_S} {Q : Option Value → pm_S → Prop} {x : Int32} (h0 : x = 0 → Q (some (.int (σ.1 10 51))) σ) (h1 : x = 1 → Q (some (.int (σ.1 10 52))) σ) (h2 : x = 2 → Q (some (.int (σ.1 10 54))) σ) (h3 : x = 3 → ¬ σ.1 10 50 = 0 → Q (some (.int (σ.1 10 35))) σ) (h3n : x = 3 → σ.1 10 50 = 0 → Q (some (.int 0)) σ) (h4 : x = 4 → ¬ σ.1 10 50 = 0 → Q (some (.int (σ.1 10 49))) σ) (h4n : x = 4 → σ.1 10 50 = 0 → Q (some (.int 0)) σ) (h5 : ¬ x = 0 → ¬ x = 1 → ¬ x = 2 → ¬ x = 3 → ¬ x = 4 → Q (some (.int (-1))) σ) : pm_call pm_Y0 (d + 1) 314 [.ref 10, .int x] σ Q := by
  refine wq_m m314 (Nat.le_of_ble_eq_true rfl) (by decide) rfl ?_
  refine wq_l 1 d314_0 rfl rfl rfl rfl ?_
  refine wq_tw [(0, 36), (1, 41), (2, 46), (3, 51), (4, 67)] 83 d314_1 (by decide) (List.forall_mem_cons.mpr ⟨fun e1 => ?_, List.forall_mem_cons.mpr ⟨fun e1 => ?_, List.forall_mem_cons.mpr ⟨fun e1 => ?_, List.forall_mem_cons.mpr ⟨fun e1 => ?_, List.forall_mem_cons.mpr ⟨fun e1 => ?_, fun _ h => absurd h List.not_mem_nil⟩⟩⟩⟩⟩) (fun e1 => ?_)
  · -- case 0
    refine wq_l 37 d314_36 rfl rfl rfl rfl ?_
    refine wq_gi (ci := 10) (j := 51) 40 d314_37 rfl rfl rfl rfl ?_
    refine wq_ri d314_40 (rfl) ?_
    first | exact h0 e1 | exact h1 e1 | exact h2 e1 | exact h3 e1 (by assumption) | exact h3n e1 (by assumption) | exact h4 e1 (by assumption) | exact h4n e1 (by assumption) | exact h5 (e1 (0, 36) (by decide)) (e1 (1, 41) (by decide)) (e1 (2, 46) (by decide)) (e1 (3, 51) (by decide)) (e1 (4, 67) (by decide))
  · -- case 1
    refine wq_l 42 d314_41 rfl rfl rfl rfl ?_
    refine wq_gi (ci := 10) (j := 52) 45 d314_42 rfl rfl rfl rfl ?_
    refine wq_ri d314_45 (rfl) ?_
    first | exact h0 e1 | exact h1 e1 | exact h2 e1 | exact h3 e1 (by assumption) | exact h3n e1 (by assumption) | exact h4 e1 (by assumption) | exact h4n e1 (by assumption) | exact h5 (e1 (0, 36) (by decide)) (e1 (1, 41) (by decide)) (e1 (2, 46) (by decide)) (e1 (3, 51) (by decide)) (e1 (4, 67) (by decide))
  · -- case 2
    refine wq_l 47 d314_46 rfl rfl rfl rfl ?_
    refine wq_gi (ci := 10) (j := 54) 50 d314_47 rfl rfl rfl rfl ?_
    refine wq_ri d314_50 (rfl) ?_
    first | exact h0 e1 | exact h1 e1 | exact h2 e1 | exact h3 e1 (by assumption) | exact h3n e1 (by assumption) | exact h4 e1 (by assumption) | exact h4n e1 (by assumption) | exact h5 (e1 (0, 36) (by decide)) (e1 (1, 41) (by decide)) (e1 (2, 46) (by decide)) (e1 (3, 51) (by decide)) (e1 (4, 67) (by decide))
  · -- case 3
    refine wq_l 52 d314_51 rfl rfl rfl rfl ?_
    refine wq_gi (ci := 10) (j := 50) 55 d314_52 rfl rfl rfl rfl ?_
    refine wq_b 65 58 d314_55 rfl (by decide) rfl (fun c55 => ?_) (fun c55 => ?_)
    · -- pc 65
      refine wq_k 66 0 d314_65 (by decide) rfl ?_
      refine wq_ri d314_66 (rfl) ?_
      first | exact h0 e1 | exact h1 e1 | exact h2 e1 | exact h3 e1 (by assumption) | exact h3n e1 (by assumption) | exact h4 e1 (by assumption) | exact h4n e1 (by assumption) | exact h5 (e1 (0, 36) (by decide)) (e1 (1, 41) (by decide)) (e1 (2, 46) (by decide)) (e1 (3, 51) (by decide)) (e1 (4, 67) (by decide))
    · -- pc 58
      refine wq_l 59 d314_58 rfl rfl rfl rfl ?_
      refine wq_gi (ci := 10) (j := 35) 62 d314_59 rfl rfl rfl rfl ?_
      refine wq_g 66 d314_62 (by decide) ?_
      refine wq_ri d314_66 (rfl) ?_
      first | exact h0 e1 | exact h1 e1 | exact h2 e1 | exact h3 e1 (by assumption) | exact h3n e1 (by assumption) | exact h4 e1 (by assumption) | exact h4n e1 (by assumption) | exact h5 (e1 (0, 36) (by decide)) (e1 (1, 41) (by decide)) (e1 (2, 46) (by decide)) (e1 (3, 51) (by decide)) (e1 (4, 67) (by decide))
  · -- case 4
    refine wq_l 68 d314_67 rfl rfl rfl rfl ?_
    refine wq_gi (ci := 10) (j := 50) 71 d314_68 rfl rfl rfl rfl ?_
    refine wq_b 81 74 d314_71 rfl (by decide) rfl (fun c71 => ?_) (fun c71 => ?_)
    · -- pc 81
      refine wq_k 82 0 d314_81 (by decide) rfl ?_
      refine wq_ri d314_82 (rfl) ?_
      first | exact h0 e1 | exact h1 e1 | exact h2 e1 | exact h3 e1 (by assumption) | exact h3n e1 (by assumption) | exact h4 e1 (by assumption) | exact h4n e1 (by assumption) | exact h5 (e1 (0, 36) (by decide)) (e1 (1, 41) (by decide)) (e1 (2, 46) (by decide)) (e1 (3, 51) (by decide)) (e1 (4, 67) (by decide))
    · -- pc 74
      refine wq_l 75 d314_74 rfl rfl rfl rfl ?_
      refine wq_gi (ci := 10) (j := 49) 78 d314_75 rfl rfl rfl rfl ?_
      refine wq_g 82 d314_78 (by decide) ?_
      refine wq_ri d314_82 (rfl) ?_
      first | exact h0 e1 | exact h1 e1 | exact h2 e1 | exact h3 e1 (by assumption) | exact h3n e1 (by assumption) | exact h4 e1 (by assumption) | exact h4n e1 (by assumption) | exact h5 (e1 (0, 36) (by decide)) (e1 (1, 41) (by decide)) (e1 (2, 46) (by decide)) (e1 (3, 51) (by decide)) (e1 (4, 67) (by decide))
  · -- default
    refine wq_k 84 (-1) d314_83 (by decide) rfl ?_
    refine wq_ri d314_84 (rfl) ?_
    first | exact h0 e1 | exact h1 e1 | exact h2 e1 | exact h3 e1 (by assumption) | exact h3n e1 (by assumption) | exact h4 e1 (by assumption) | exact h4n e1 (by assumption) | exact h5 (e1 (0, 36) (by decide)) (e1 (1, 41) (by decide)) (e1 (2, 46) (by decide)) (e1 (3, 51) (by decide)) (e1 (4, 67) (by decide))
