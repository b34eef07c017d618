/-! THE FACE, but judge: the answers -/
theorem vp_in_lt {x y z : Int32} {N : Nat} (h0 : 0 ≤ x) (h1 : x < y) (h2 : y ≤ z) (hz : z.toInt = N) : vp_in x N := by
  rw [vp_in_iff]
  have a := Int32.le_iff_toInt_le.mp h0
  have b := Int32.lt_iff_toInt_lt.mp h1
  have c := Int32.le_iff_toInt_le.mp h2
  have d : (0 : Int32).toInt = 0 := by decide
  omega
theorem d65_0 : decode prog_10_method_7_code 0 = .ok (.iload_n 1, 1) := by decide +kernel
theorem d65_1 : decode prog_10_method_7_code 1 = .ok (.ifCond .lt 20, 3) := by decide +kernel
theorem d65_4 : decode prog_10_method_7_code 4 = .ok (.iload_n 1, 1) := by decide +kernel
theorem d65_5 : decode prog_10_method_7_code 5 = .ok (.aload_n 0, 1) := by decide +kernel
theorem d65_6 : decode prog_10_method_7_code 6 = .ok (.getfield 36, 3) := by decide +kernel
theorem d65_9 : decode prog_10_method_7_code 9 = .ok (.if_icmp .ge 12, 3) := by decide +kernel
theorem d65_12 : decode prog_10_method_7_code 12 = .ok (.aload_n 0, 1) := by decide +kernel
theorem d65_13 : decode prog_10_method_7_code 13 = .ok (.getfield 9, 3) := by decide +kernel
theorem d65_16 : decode prog_10_method_7_code 16 = .ok (.iload_n 1, 1) := by decide +kernel
theorem d65_17 : decode prog_10_method_7_code 17 = .ok (.iaload, 1) := by decide +kernel
theorem d65_18 : decode prog_10_method_7_code 18 = .ok (.goto 4, 3) := by decide +kernel
theorem d65_21 : decode prog_10_method_7_code 21 = .ok (.iconst (-1), 1) := by decide +kernel
theorem d65_22 : decode prog_10_method_7_code 22 = .ok (.ireturn, 1) := by decide +kernel
theorem m65 : pm_m 65 = some (⟨"TypeRules$Tree", "kindAt", "(I)I"⟩, prog_10_method_7_code, 2, (some FieldType.int), 3, 1, 4) := rfl
theorem sp65 {d : Nat} {σ : pm_S} {Q : Option Value → pm_S → Prop} {x : Int32} (hc : σ.1 3 8 ≤ 16386) (h1 : 0 ≤ x → x < σ.1 3 8 → Q (some (.int (σ.2.2 19 x.toNatClampNeg))) σ) (h2 : ¬ (0 ≤ x ∧ x < σ.1 3 8) → Q (some (.int (-1))) σ) : pm_call pm_Y0 (d + 1) 65 [.ref 3, .int x] σ Q := by
  refine wq_m m65 (Nat.le_of_ble_eq_true rfl) (by decide) rfl ?_
  refine wq_l 1 d65_0 rfl rfl rfl rfl ?_
  refine wq_b 21 4 d65_1 rfl (by decide) rfl (fun c1 => ?_) (fun c1 => ?_)
  · -- pc 21
    refine wq_k 22 (-1) d65_21 (by decide) rfl ?_
    refine wq_ri d65_22 (rfl) ?_
    first | exact h1 (Int32.not_lt.mp (by assumption)) (Int32.not_le.mp (by assumption)) | exact h2 (fun q => absurd q.1 (Int32.not_le.mpr (by assumption))) | exact h2 (fun q => absurd q.2 (Int32.not_lt.mpr (by assumption)))
  · -- pc 4
    refine wq_l 5 d65_4 rfl rfl rfl rfl ?_
    refine wq_l 6 d65_5 rfl rfl rfl rfl ?_
    refine wq_gi (ci := 3) (j := 8) 9 d65_6 rfl rfl rfl rfl ?_
    refine wq_b 21 12 d65_9 rfl (by decide) rfl (fun c9 => ?_) (fun c9 => ?_)
    · -- pc 21
      refine wq_k 22 (-1) d65_21 (by decide) rfl ?_
      refine wq_ri d65_22 (rfl) ?_
      first | exact h1 (Int32.not_lt.mp (by assumption)) (Int32.not_le.mp (by assumption)) | exact h2 (fun q => absurd q.1 (Int32.not_le.mpr (by assumption))) | exact h2 (fun q => absurd q.2 (Int32.not_lt.mpr (by assumption)))
    · -- pc 12
      refine wq_l 13 d65_12 rfl rfl rfl rfl ?_
      refine wq_gr (ci := 3) (j := 0) (q := 19) 16 d65_13 rfl rfl rfl rfl ?_
      refine wq_l 17 d65_16 rfl rfl rfl rfl ?_
      refine wq_al 18 d65_17 rfl rfl rfl (vp_in_lt (Int32.not_lt.mp c1) (Int32.not_le.mp c9) hc (by decide)) ?_
      refine wq_g 22 d65_18 (by decide) ?_
      refine wq_ri d65_22 (rfl) ?_
      first | exact h1 (Int32.not_lt.mp (by assumption)) (Int32.not_le.mp (by assumption)) | exact h2 (fun q => absurd q.1 (Int32.not_le.mpr (by assumption))) | exact h2 (fun q => absurd q.2 (Int32.not_lt.mpr (by assumption)))
theorem d74_0 : decode prog_10_method_8_code 0 = .ok (.iload_n 1, 1) := by decide +kernel
theorem d74_1 : decode prog_10_method_8_code 1 = .ok (.ifCond .lt 20, 3) := by decide +kernel
theorem d74_4 : decode prog_10_method_8_code 4 = .ok (.iload_n 1, 1) := by decide +kernel
theorem d74_5 : decode prog_10_method_8_code 5 = .ok (.aload_n 0, 1) := by decide +kernel
theorem d74_6 : decode prog_10_method_8_code 6 = .ok (.getfield 36, 3) := by decide +kernel
theorem d74_9 : decode prog_10_method_8_code 9 = .ok (.if_icmp .ge 12, 3) := by decide +kernel
theorem d74_12 : decode prog_10_method_8_code 12 = .ok (.aload_n 0, 1) := by decide +kernel
theorem d74_13 : decode prog_10_method_8_code 13 = .ok (.getfield 15, 3) := by decide +kernel
theorem d74_16 : decode prog_10_method_8_code 16 = .ok (.iload_n 1, 1) := by decide +kernel
theorem d74_17 : decode prog_10_method_8_code 17 = .ok (.iaload, 1) := by decide +kernel
theorem d74_18 : decode prog_10_method_8_code 18 = .ok (.goto 4, 3) := by decide +kernel
theorem d74_21 : decode prog_10_method_8_code 21 = .ok (.iconst (-1), 1) := by decide +kernel
theorem d74_22 : decode prog_10_method_8_code 22 = .ok (.ireturn, 1) := by decide +kernel
theorem m74 : pm_m 74 = some (⟨"TypeRules$Tree", "placeAt", "(I)I"⟩, prog_10_method_8_code, 2, (some FieldType.int), 3, 1, 4) := rfl
theorem sp74 {d : Nat} {σ : pm_S} {Q : Option Value → pm_S → Prop} {x : Int32} (hc : σ.1 3 8 ≤ 16386) (h1 : 0 ≤ x → x < σ.1 3 8 → Q (some (.int (σ.2.2 20 x.toNatClampNeg))) σ) (h2 : ¬ (0 ≤ x ∧ x < σ.1 3 8) → Q (some (.int (-1))) σ) : pm_call pm_Y0 (d + 1) 74 [.ref 3, .int x] σ Q := by
  refine wq_m m74 (Nat.le_of_ble_eq_true rfl) (by decide) rfl ?_
  refine wq_l 1 d74_0 rfl rfl rfl rfl ?_
  refine wq_b 21 4 d74_1 rfl (by decide) rfl (fun c1 => ?_) (fun c1 => ?_)
  · -- pc 21
    refine wq_k 22 (-1) d74_21 (by decide) rfl ?_
    refine wq_ri d74_22 (rfl) ?_
    first | exact h1 (Int32.not_lt.mp (by assumption)) (Int32.not_le.mp (by assumption)) | exact h2 (fun q => absurd q.1 (Int32.not_le.mpr (by assumption))) | exact h2 (fun q => absurd q.2 (Int32.not_lt.mpr (by assumption)))
  · -- pc 4
    refine wq_l 5 d74_4 rfl rfl rfl rfl ?_
    refine wq_l 6 d74_5 rfl rfl rfl rfl ?_
    refine wq_gi (ci := 3) (j := 8) 9 d74_6 rfl rfl rfl rfl ?_
    refine wq_b 21 12 d74_9 rfl (by decide) rfl (fun c9 => ?_) (fun c9 => ?_)
    · -- pc 21
      refine wq_k 22 (-1) d74_21 (by decide) rfl ?_
      refine wq_ri d74_22 (rfl) ?_
      first | exact h1 (Int32.not_lt.mp (by assumption)) (Int32.not_le.mp (by assumption)) | exact h2 (fun q => absurd q.1 (Int32.not_le.mpr (by assumption))) | exact h2 (fun q => absurd q.2 (Int32.not_lt.mpr (by assumption)))
    · -- pc 12
      refine wq_l 13 d74_12 rfl rfl rfl rfl ?_
      refine wq_gr (ci := 3) (j := 1) (q := 20) 16 d74_13 rfl rfl rfl rfl ?_
      refine wq_l 17 d74_16 rfl rfl rfl rfl ?_
      refine wq_al 18 d74_17 rfl rfl rfl (vp_in_lt (Int32.not_lt.mp c1) (Int32.not_le.mp c9) hc (by decide)) ?_
      refine wq_g 22 d74_18 (by decide) ?_
      refine wq_ri d74_22 (rfl) ?_
      first | exact h1 (Int32.not_lt.mp (by assumption)) (Int32.not_le.mp (by assumption)) | exact h2 (fun q => absurd q.1 (Int32.not_le.mpr (by assumption))) | exact h2 (fun q => absurd q.2 (Int32.not_lt.mpr (by assumption)))
theorem d66_0 : decode prog_10_method_9_code 0 = .ok (.iload_n 1, 1) := by decide +kernel
theorem d66_1 : decode prog_10_method_9_code 1 = .ok (.ifCond .lt 20, 3) := by decide +kernel
theorem d66_4 : decode prog_10_method_9_code 4 = .ok (.iload_n 1, 1) := by decide +kernel
theorem d66_5 : decode prog_10_method_9_code 5 = .ok (.aload_n 0, 1) := by decide +kernel
theorem d66_6 : decode prog_10_method_9_code 6 = .ok (.getfield 36, 3) := by decide +kernel
theorem d66_9 : decode prog_10_method_9_code 9 = .ok (.if_icmp .ge 12, 3) := by decide +kernel
theorem d66_12 : decode prog_10_method_9_code 12 = .ok (.aload_n 0, 1) := by decide +kernel
theorem d66_13 : decode prog_10_method_9_code 13 = .ok (.getfield 18, 3) := by decide +kernel
theorem d66_16 : decode prog_10_method_9_code 16 = .ok (.iload_n 1, 1) := by decide +kernel
theorem d66_17 : decode prog_10_method_9_code 17 = .ok (.iaload, 1) := by decide +kernel
theorem d66_18 : decode prog_10_method_9_code 18 = .ok (.goto 4, 3) := by decide +kernel
theorem d66_21 : decode prog_10_method_9_code 21 = .ok (.iconst (-1), 1) := by decide +kernel
theorem d66_22 : decode prog_10_method_9_code 22 = .ok (.ireturn, 1) := by decide +kernel
theorem m66 : pm_m 66 = some (⟨"TypeRules$Tree", "valueAt", "(I)I"⟩, prog_10_method_9_code, 2, (some FieldType.int), 3, 1, 4) := rfl
theorem sp66 {d : Nat} {σ : pm_S} {Q : Option Value → pm_S → Prop} {x : Int32} (hc : σ.1 3 8 ≤ 16386) (h1 : 0 ≤ x → x < σ.1 3 8 → Q (some (.int (σ.2.2 21 x.toNatClampNeg))) σ) (h2 : ¬ (0 ≤ x ∧ x < σ.1 3 8) → Q (some (.int (-1))) σ) : pm_call pm_Y0 (d + 1) 66 [.ref 3, .int x] σ Q := by
  refine wq_m m66 (Nat.le_of_ble_eq_true rfl) (by decide) rfl ?_
  refine wq_l 1 d66_0 rfl rfl rfl rfl ?_
  refine wq_b 21 4 d66_1 rfl (by decide) rfl (fun c1 => ?_) (fun c1 => ?_)
  · -- pc 21
    refine wq_k 22 (-1) d66_21 (by decide) rfl ?_
    refine wq_ri d66_22 (rfl) ?_
    first | exact h1 (Int32.not_lt.mp (by assumption)) (Int32.not_le.mp (by assumption)) | exact h2 (fun q => absurd q.1 (Int32.not_le.mpr (by assumption))) | exact h2 (fun q => absurd q.2 (Int32.not_lt.mpr (by assumption)))
  · -- pc 4
    refine wq_l 5 d66_4 rfl rfl rfl rfl ?_
    refine wq_l 6 d66_5 rfl rfl rfl rfl ?_
    refine wq_gi (ci := 3) (j := 8) 9 d66_6 rfl rfl rfl rfl ?_
    refine wq_b 21 12 d66_9 rfl (by decide) rfl (fun c9 => ?_) (fun c9 => ?_)
    · -- pc 21
      refine wq_k 22 (-1) d66_21 (by decide) rfl ?_
      refine wq_ri d66_22 (rfl) ?_
      first | exact h1 (Int32.not_lt.mp (by assumption)) (Int32.not_le.mp (by assumption)) | exact h2 (fun q => absurd q.1 (Int32.not_le.mpr (by assumption))) | exact h2 (fun q => absurd q.2 (Int32.not_lt.mpr (by assumption)))
    · -- pc 12
      refine wq_l 13 d66_12 rfl rfl rfl rfl ?_
      refine wq_gr (ci := 3) (j := 2) (q := 21) 16 d66_13 rfl rfl rfl rfl ?_
      refine wq_l 17 d66_16 rfl rfl rfl rfl ?_
      refine wq_al 18 d66_17 rfl rfl rfl (vp_in_lt (Int32.not_lt.mp c1) (Int32.not_le.mp c9) hc (by decide)) ?_
      refine wq_g 22 d66_18 (by decide) ?_
      refine wq_ri d66_22 (rfl) ?_
      first | exact h1 (Int32.not_lt.mp (by assumption)) (Int32.not_le.mp (by assumption)) | exact h2 (fun q => absurd q.1 (Int32.not_le.mpr (by assumption))) | exact h2 (fun q => absurd q.2 (Int32.not_lt.mpr (by assumption)))
theorem d69_0 : decode prog_10_method_10_code 0 = .ok (.iload_n 1, 1) := by decide +kernel
theorem d69_1 : decode prog_10_method_10_code 1 = .ok (.ifCond .lt 20, 3) := by decide +kernel
theorem d69_4 : decode prog_10_method_10_code 4 = .ok (.iload_n 1, 1) := by decide +kernel
theorem d69_5 : decode prog_10_method_10_code 5 = .ok (.aload_n 0, 1) := by decide +kernel
theorem d69_6 : decode prog_10_method_10_code 6 = .ok (.getfield 36, 3) := by decide +kernel
theorem d69_9 : decode prog_10_method_10_code 9 = .ok (.if_icmp .ge 12, 3) := by decide +kernel
theorem d69_12 : decode prog_10_method_10_code 12 = .ok (.aload_n 0, 1) := by decide +kernel
theorem d69_13 : decode prog_10_method_10_code 13 = .ok (.getfield 24, 3) := by decide +kernel
theorem d69_16 : decode prog_10_method_10_code 16 = .ok (.iload_n 1, 1) := by decide +kernel
theorem d69_17 : decode prog_10_method_10_code 17 = .ok (.iaload, 1) := by decide +kernel
theorem d69_18 : decode prog_10_method_10_code 18 = .ok (.goto 4, 3) := by decide +kernel
theorem d69_21 : decode prog_10_method_10_code 21 = .ok (.iconst (-1), 1) := by decide +kernel
theorem d69_22 : decode prog_10_method_10_code 22 = .ok (.ireturn, 1) := by decide +kernel
theorem m69 : pm_m 69 = some (⟨"TypeRules$Tree", "parentOf", "(I)I"⟩, prog_10_method_10_code, 2, (some FieldType.int), 3, 1, 4) := rfl
theorem sp69 {d : Nat} {σ : pm_S} {Q : Option Value → pm_S → Prop} {x : Int32} (hc : σ.1 3 8 ≤ 16386) (h1 : 0 ≤ x → x < σ.1 3 8 → Q (some (.int (σ.2.2 23 x.toNatClampNeg))) σ) (h2 : ¬ (0 ≤ x ∧ x < σ.1 3 8) → Q (some (.int (-1))) σ) : pm_call pm_Y0 (d + 1) 69 [.ref 3, .int x] σ Q := by
  refine wq_m m69 (Nat.le_of_ble_eq_true rfl) (by decide) rfl ?_
  refine wq_l 1 d69_0 rfl rfl rfl rfl ?_
  refine wq_b 21 4 d69_1 rfl (by decide) rfl (fun c1 => ?_) (fun c1 => ?_)
  · -- pc 21
    refine wq_k 22 (-1) d69_21 (by decide) rfl ?_
    refine wq_ri d69_22 (rfl) ?_
    first | exact h1 (Int32.not_lt.mp (by assumption)) (Int32.not_le.mp (by assumption)) | exact h2 (fun q => absurd q.1 (Int32.not_le.mpr (by assumption))) | exact h2 (fun q => absurd q.2 (Int32.not_lt.mpr (by assumption)))
  · -- pc 4
    refine wq_l 5 d69_4 rfl rfl rfl rfl ?_
    refine wq_l 6 d69_5 rfl rfl rfl rfl ?_
    refine wq_gi (ci := 3) (j := 8) 9 d69_6 rfl rfl rfl rfl ?_
    refine wq_b 21 12 d69_9 rfl (by decide) rfl (fun c9 => ?_) (fun c9 => ?_)
    · -- pc 21
      refine wq_k 22 (-1) d69_21 (by decide) rfl ?_
      refine wq_ri d69_22 (rfl) ?_
      first | exact h1 (Int32.not_lt.mp (by assumption)) (Int32.not_le.mp (by assumption)) | exact h2 (fun q => absurd q.1 (Int32.not_le.mpr (by assumption))) | exact h2 (fun q => absurd q.2 (Int32.not_lt.mpr (by assumption)))
    · -- pc 12
      refine wq_l 13 d69_12 rfl rfl rfl rfl ?_
      refine wq_gr (ci := 3) (j := 4) (q := 23) 16 d69_13 rfl rfl rfl rfl ?_
      refine wq_l 17 d69_16 rfl rfl rfl rfl ?_
      refine wq_al 18 d69_17 rfl rfl rfl (vp_in_lt (Int32.not_lt.mp c1) (Int32.not_le.mp c9) hc (by decide)) ?_
      refine wq_g 22 d69_18 (by decide) ?_
      refine wq_ri d69_22 (rfl) ?_
      first | exact h1 (Int32.not_lt.mp (by assumption)) (Int32.not_le.mp (by assumption)) | exact h2 (fun q => absurd q.1 (Int32.not_le.mpr (by assumption))) | exact h2 (fun q => absurd q.2 (Int32.not_lt.mpr (by assumption)))
theorem d71_0 : decode prog_10_method_11_code 0 = .ok (.iload_n 1, 1) := by decide +kernel
theorem d71_1 : decode prog_10_method_11_code 1 = .ok (.ifCond .lt 20, 3) := by decide +kernel
theorem d71_4 : decode prog_10_method_11_code 4 = .ok (.iload_n 1, 1) := by decide +kernel
theorem d71_5 : decode prog_10_method_11_code 5 = .ok (.aload_n 0, 1) := by decide +kernel
theorem d71_6 : decode prog_10_method_11_code 6 = .ok (.getfield 36, 3) := by decide +kernel
theorem d71_9 : decode prog_10_method_11_code 9 = .ok (.if_icmp .ge 12, 3) := by decide +kernel
theorem d71_12 : decode prog_10_method_11_code 12 = .ok (.aload_n 0, 1) := by decide +kernel
theorem d71_13 : decode prog_10_method_11_code 13 = .ok (.getfield 27, 3) := by decide +kernel
theorem d71_16 : decode prog_10_method_11_code 16 = .ok (.iload_n 1, 1) := by decide +kernel
theorem d71_17 : decode prog_10_method_11_code 17 = .ok (.iaload, 1) := by decide +kernel
theorem d71_18 : decode prog_10_method_11_code 18 = .ok (.goto 4, 3) := by decide +kernel
theorem d71_21 : decode prog_10_method_11_code 21 = .ok (.iconst (-1), 1) := by decide +kernel
theorem d71_22 : decode prog_10_method_11_code 22 = .ok (.ireturn, 1) := by decide +kernel
theorem m71 : pm_m 71 = some (⟨"TypeRules$Tree", "typeAt", "(I)I"⟩, prog_10_method_11_code, 2, (some FieldType.int), 3, 1, 4) := rfl
theorem sp71 {d : Nat} {σ : pm_S} {Q : Option Value → pm_S → Prop} {x : Int32} (hc : σ.1 3 8 ≤ 16386) (h1 : 0 ≤ x → x < σ.1 3 8 → Q (some (.int (σ.2.2 24 x.toNatClampNeg))) σ) (h2 : ¬ (0 ≤ x ∧ x < σ.1 3 8) → Q (some (.int (-1))) σ) : pm_call pm_Y0 (d + 1) 71 [.ref 3, .int x] σ Q := by
  refine wq_m m71 (Nat.le_of_ble_eq_true rfl) (by decide) rfl ?_
  refine wq_l 1 d71_0 rfl rfl rfl rfl ?_
  refine wq_b 21 4 d71_1 rfl (by decide) rfl (fun c1 => ?_) (fun c1 => ?_)
  · -- pc 21
    refine wq_k 22 (-1) d71_21 (by decide) rfl ?_
    refine wq_ri d71_22 (rfl) ?_
    first | exact h1 (Int32.not_lt.mp (by assumption)) (Int32.not_le.mp (by assumption)) | exact h2 (fun q => absurd q.1 (Int32.not_le.mpr (by assumption))) | exact h2 (fun q => absurd q.2 (Int32.not_lt.mpr (by assumption)))
  · -- pc 4
    refine wq_l 5 d71_4 rfl rfl rfl rfl ?_
    refine wq_l 6 d71_5 rfl rfl rfl rfl ?_
    refine wq_gi (ci := 3) (j := 8) 9 d71_6 rfl rfl rfl rfl ?_
    refine wq_b 21 12 d71_9 rfl (by decide) rfl (fun c9 => ?_) (fun c9 => ?_)
    · -- pc 21
      refine wq_k 22 (-1) d71_21 (by decide) rfl ?_
      refine wq_ri d71_22 (rfl) ?_
      first | exact h1 (Int32.not_lt.mp (by assumption)) (Int32.not_le.mp (by assumption)) | exact h2 (fun q => absurd q.1 (Int32.not_le.mpr (by assumption))) | exact h2 (fun q => absurd q.2 (Int32.not_lt.mpr (by assumption)))
    · -- pc 12
      refine wq_l 13 d71_12 rfl rfl rfl rfl ?_
      refine wq_gr (ci := 3) (j := 5) (q := 24) 16 d71_13 rfl rfl rfl rfl ?_
      refine wq_l 17 d71_16 rfl rfl rfl rfl ?_
      refine wq_al 18 d71_17 rfl rfl rfl (vp_in_lt (Int32.not_lt.mp c1) (Int32.not_le.mp c9) hc (by decide)) ?_
      refine wq_g 22 d71_18 (by decide) ?_
      refine wq_ri d71_22 (rfl) ?_
      first | exact h1 (Int32.not_lt.mp (by assumption)) (Int32.not_le.mp (by assumption)) | exact h2 (fun q => absurd q.1 (Int32.not_le.mpr (by assumption))) | exact h2 (fun q => absurd q.2 (Int32.not_lt.mpr (by assumption)))
theorem d75_0 : decode prog_10_method_12_code 0 = .ok (.iload_n 1, 1) := by decide +kernel
theorem d75_1 : decode prog_10_method_12_code 1 = .ok (.ifCond .lt 20, 3) := by decide +kernel
theorem d75_4 : decode prog_10_method_12_code 4 = .ok (.iload_n 1, 1) := by decide +kernel
theorem d75_5 : decode prog_10_method_12_code 5 = .ok (.aload_n 0, 1) := by decide +kernel
theorem d75_6 : decode prog_10_method_12_code 6 = .ok (.getfield 36, 3) := by decide +kernel
theorem d75_9 : decode prog_10_method_12_code 9 = .ok (.if_icmp .ge 12, 3) := by decide +kernel
theorem d75_12 : decode prog_10_method_12_code 12 = .ok (.aload_n 0, 1) := by decide +kernel
theorem d75_13 : decode prog_10_method_12_code 13 = .ok (.getfield 30, 3) := by decide +kernel
theorem d75_16 : decode prog_10_method_12_code 16 = .ok (.iload_n 1, 1) := by decide +kernel
theorem d75_17 : decode prog_10_method_12_code 17 = .ok (.iaload, 1) := by decide +kernel
theorem d75_18 : decode prog_10_method_12_code 18 = .ok (.goto 4, 3) := by decide +kernel
theorem d75_21 : decode prog_10_method_12_code 21 = .ok (.iconst (-1), 1) := by decide +kernel
theorem d75_22 : decode prog_10_method_12_code 22 = .ok (.ireturn, 1) := by decide +kernel
theorem m75 : pm_m 75 = some (⟨"TypeRules$Tree", "cellAt", "(I)I"⟩, prog_10_method_12_code, 2, (some FieldType.int), 3, 1, 4) := rfl
theorem sp75 {d : Nat} {σ : pm_S} {Q : Option Value → pm_S → Prop} {x : Int32} (hc : σ.1 3 8 ≤ 16386) (h1 : 0 ≤ x → x < σ.1 3 8 → Q (some (.int (σ.2.2 25 x.toNatClampNeg))) σ) (h2 : ¬ (0 ≤ x ∧ x < σ.1 3 8) → Q (some (.int (-1))) σ) : pm_call pm_Y0 (d + 1) 75 [.ref 3, .int x] σ Q := by
  refine wq_m m75 (Nat.le_of_ble_eq_true rfl) (by decide) rfl ?_
  refine wq_l 1 d75_0 rfl rfl rfl rfl ?_
  refine wq_b 21 4 d75_1 rfl (by decide) rfl (fun c1 => ?_) (fun c1 => ?_)
  · -- pc 21
    refine wq_k 22 (-1) d75_21 (by decide) rfl ?_
    refine wq_ri d75_22 (rfl) ?_
    first | exact h1 (Int32.not_lt.mp (by assumption)) (Int32.not_le.mp (by assumption)) | exact h2 (fun q => absurd q.1 (Int32.not_le.mpr (by assumption))) | exact h2 (fun q => absurd q.2 (Int32.not_lt.mpr (by assumption)))
  · -- pc 4
    refine wq_l 5 d75_4 rfl rfl rfl rfl ?_
    refine wq_l 6 d75_5 rfl rfl rfl rfl ?_
    refine wq_gi (ci := 3) (j := 8) 9 d75_6 rfl rfl rfl rfl ?_
    refine wq_b 21 12 d75_9 rfl (by decide) rfl (fun c9 => ?_) (fun c9 => ?_)
    · -- pc 21
      refine wq_k 22 (-1) d75_21 (by decide) rfl ?_
      refine wq_ri d75_22 (rfl) ?_
      first | exact h1 (Int32.not_lt.mp (by assumption)) (Int32.not_le.mp (by assumption)) | exact h2 (fun q => absurd q.1 (Int32.not_le.mpr (by assumption))) | exact h2 (fun q => absurd q.2 (Int32.not_lt.mpr (by assumption)))
    · -- pc 12
      refine wq_l 13 d75_12 rfl rfl rfl rfl ?_
      refine wq_gr (ci := 3) (j := 6) (q := 25) 16 d75_13 rfl rfl rfl rfl ?_
      refine wq_l 17 d75_16 rfl rfl rfl rfl ?_
      refine wq_al 18 d75_17 rfl rfl rfl (vp_in_lt (Int32.not_lt.mp c1) (Int32.not_le.mp c9) hc (by decide)) ?_
      refine wq_g 22 d75_18 (by decide) ?_
      refine wq_ri d75_22 (rfl) ?_
      first | exact h1 (Int32.not_lt.mp (by assumption)) (Int32.not_le.mp (by assumption)) | exact h2 (fun q => absurd q.1 (Int32.not_le.mpr (by assumption))) | exact h2 (fun q => absurd q.2 (Int32.not_lt.mpr (by assumption)))
theorem d76_0 : decode prog_10_method_13_code 0 = .ok (.iload_n 1, 1) := by decide +kernel
theorem d76_1 : decode prog_10_method_13_code 1 = .ok (.ifCond .lt 20, 3) := by decide +kernel
theorem d76_4 : decode prog_10_method_13_code 4 = .ok (.iload_n 1, 1) := by decide +kernel
theorem d76_5 : decode prog_10_method_13_code 5 = .ok (.aload_n 0, 1) := by decide +kernel
theorem d76_6 : decode prog_10_method_13_code 6 = .ok (.getfield 36, 3) := by decide +kernel
theorem d76_9 : decode prog_10_method_13_code 9 = .ok (.if_icmp .ge 12, 3) := by decide +kernel
theorem d76_12 : decode prog_10_method_13_code 12 = .ok (.aload_n 0, 1) := by decide +kernel
theorem d76_13 : decode prog_10_method_13_code 13 = .ok (.getfield 33, 3) := by decide +kernel
theorem d76_16 : decode prog_10_method_13_code 16 = .ok (.iload_n 1, 1) := by decide +kernel
theorem d76_17 : decode prog_10_method_13_code 17 = .ok (.iaload, 1) := by decide +kernel
theorem d76_18 : decode prog_10_method_13_code 18 = .ok (.goto 4, 3) := by decide +kernel
theorem d76_21 : decode prog_10_method_13_code 21 = .ok (.iconst (-1), 1) := by decide +kernel
theorem d76_22 : decode prog_10_method_13_code 22 = .ok (.ireturn, 1) := by decide +kernel
theorem m76 : pm_m 76 = some (⟨"TypeRules$Tree", "meaningAt", "(I)I"⟩, prog_10_method_13_code, 2, (some FieldType.int), 3, 1, 4) := rfl
theorem sp76 {d : Nat} {σ : pm_S} {Q : Option Value → pm_S → Prop} {x : Int32} (hc : σ.1 3 8 ≤ 16386) (h1 : 0 ≤ x → x < σ.1 3 8 → Q (some (.int (σ.2.2 26 x.toNatClampNeg))) σ) (h2 : ¬ (0 ≤ x ∧ x < σ.1 3 8) → Q (some (.int (-1))) σ) : pm_call pm_Y0 (d + 1) 76 [.ref 3, .int x] σ Q := by
  refine wq_m m76 (Nat.le_of_ble_eq_true rfl) (by decide) rfl ?_
  refine wq_l 1 d76_0 rfl rfl rfl rfl ?_
  refine wq_b 21 4 d76_1 rfl (by decide) rfl (fun c1 => ?_) (fun c1 => ?_)
  · -- pc 21
    refine wq_k 22 (-1) d76_21 (by decide) rfl ?_
    refine wq_ri d76_22 (rfl) ?_
    first | exact h1 (Int32.not_lt.mp (by assumption)) (Int32.not_le.mp (by assumption)) | exact h2 (fun q => absurd q.1 (Int32.not_le.mpr (by assumption))) | exact h2 (fun q => absurd q.2 (Int32.not_lt.mpr (by assumption)))
  · -- pc 4
    refine wq_l 5 d76_4 rfl rfl rfl rfl ?_
    refine wq_l 6 d76_5 rfl rfl rfl rfl ?_
    refine wq_gi (ci := 3) (j := 8) 9 d76_6 rfl rfl rfl rfl ?_
    refine wq_b 21 12 d76_9 rfl (by decide) rfl (fun c9 => ?_) (fun c9 => ?_)
    · -- pc 21
      refine wq_k 22 (-1) d76_21 (by decide) rfl ?_
      refine wq_ri d76_22 (rfl) ?_
      first | exact h1 (Int32.not_lt.mp (by assumption)) (Int32.not_le.mp (by assumption)) | exact h2 (fun q => absurd q.1 (Int32.not_le.mpr (by assumption))) | exact h2 (fun q => absurd q.2 (Int32.not_lt.mpr (by assumption)))
    · -- pc 12
      refine wq_l 13 d76_12 rfl rfl rfl rfl ?_
      refine wq_gr (ci := 3) (j := 7) (q := 26) 16 d76_13 rfl rfl rfl rfl ?_
      refine wq_l 17 d76_16 rfl rfl rfl rfl ?_
      refine wq_al 18 d76_17 rfl rfl rfl (vp_in_lt (Int32.not_lt.mp c1) (Int32.not_le.mp c9) hc (by decide)) ?_
      refine wq_g 22 d76_18 (by decide) ?_
      refine wq_ri d76_22 (rfl) ?_
      first | exact h1 (Int32.not_lt.mp (by assumption)) (Int32.not_le.mp (by assumption)) | exact h2 (fun q => absurd q.1 (Int32.not_le.mpr (by assumption))) | exact h2 (fun q => absurd q.2 (Int32.not_lt.mpr (by assumption)))
theorem d121_0 : decode prog_2_method_11_code 0 = .ok (.iload_n 1, 1) := by decide +kernel
theorem d121_1 : decode prog_2_method_11_code 1 = .ok (.ifCond .lt 20, 3) := by decide +kernel
theorem d121_4 : decode prog_2_method_11_code 4 = .ok (.iload_n 1, 1) := by decide +kernel
theorem d121_5 : decode prog_2_method_11_code 5 = .ok (.aload_n 0, 1) := by decide +kernel
theorem d121_6 : decode prog_2_method_11_code 6 = .ok (.getfield 42, 3) := by decide +kernel
theorem d121_9 : decode prog_2_method_11_code 9 = .ok (.if_icmp .ge 12, 3) := by decide +kernel
theorem d121_12 : decode prog_2_method_11_code 12 = .ok (.aload_n 0, 1) := by decide +kernel
theorem d121_13 : decode prog_2_method_11_code 13 = .ok (.getfield 24, 3) := by decide +kernel
theorem d121_16 : decode prog_2_method_11_code 16 = .ok (.iload_n 1, 1) := by decide +kernel
theorem d121_17 : decode prog_2_method_11_code 17 = .ok (.iaload, 1) := by decide +kernel
theorem d121_18 : decode prog_2_method_11_code 18 = .ok (.goto 4, 3) := by decide +kernel
theorem d121_21 : decode prog_2_method_11_code 21 = .ok (.iconst (-1), 1) := by decide +kernel
theorem d121_22 : decode prog_2_method_11_code 22 = .ok (.ireturn, 1) := by decide +kernel
theorem m121 : pm_m 121 = some (⟨"TypeRules$Blocks", "kindOf", "(I)I"⟩, prog_2_method_11_code, 2, (some FieldType.int), 5, 1, 6) := rfl
theorem sp121 {d : Nat} {σ : pm_S} {Q : Option Value → pm_S → Prop} {x : Int32} (hc : σ.1 5 8 ≤ 418) (h1 : 0 ≤ x → x < σ.1 5 8 → Q (some (.int (σ.2.2 28 x.toNatClampNeg))) σ) (h2 : ¬ (0 ≤ x ∧ x < σ.1 5 8) → Q (some (.int (-1))) σ) : pm_call pm_Y0 (d + 1) 121 [.ref 5, .int x] σ Q := by
  refine wq_m m121 (Nat.le_of_ble_eq_true rfl) (by decide) rfl ?_
  refine wq_l 1 d121_0 rfl rfl rfl rfl ?_
  refine wq_b 21 4 d121_1 rfl (by decide) rfl (fun c1 => ?_) (fun c1 => ?_)
  · -- pc 21
    refine wq_k 22 (-1) d121_21 (by decide) rfl ?_
    refine wq_ri d121_22 (rfl) ?_
    first | exact h1 (Int32.not_lt.mp (by assumption)) (Int32.not_le.mp (by assumption)) | exact h2 (fun q => absurd q.1 (Int32.not_le.mpr (by assumption))) | exact h2 (fun q => absurd q.2 (Int32.not_lt.mpr (by assumption)))
  · -- pc 4
    refine wq_l 5 d121_4 rfl rfl rfl rfl ?_
    refine wq_l 6 d121_5 rfl rfl rfl rfl ?_
    refine wq_gi (ci := 5) (j := 8) 9 d121_6 rfl rfl rfl rfl ?_
    refine wq_b 21 12 d121_9 rfl (by decide) rfl (fun c9 => ?_) (fun c9 => ?_)
    · -- pc 21
      refine wq_k 22 (-1) d121_21 (by decide) rfl ?_
      refine wq_ri d121_22 (rfl) ?_
      first | exact h1 (Int32.not_lt.mp (by assumption)) (Int32.not_le.mp (by assumption)) | exact h2 (fun q => absurd q.1 (Int32.not_le.mpr (by assumption))) | exact h2 (fun q => absurd q.2 (Int32.not_lt.mpr (by assumption)))
    · -- pc 12
      refine wq_l 13 d121_12 rfl rfl rfl rfl ?_
      refine wq_gr (ci := 5) (j := 2) (q := 28) 16 d121_13 rfl rfl rfl rfl ?_
      refine wq_l 17 d121_16 rfl rfl rfl rfl ?_
      refine wq_al 18 d121_17 rfl rfl rfl (vp_in_lt (Int32.not_lt.mp c1) (Int32.not_le.mp c9) hc (by decide)) ?_
      refine wq_g 22 d121_18 (by decide) ?_
      refine wq_ri d121_22 (rfl) ?_
      first | exact h1 (Int32.not_lt.mp (by assumption)) (Int32.not_le.mp (by assumption)) | exact h2 (fun q => absurd q.1 (Int32.not_le.mpr (by assumption))) | exact h2 (fun q => absurd q.2 (Int32.not_lt.mpr (by assumption)))
theorem d118_0 : decode prog_2_method_12_code 0 = .ok (.iload_n 1, 1) := by decide +kernel
theorem d118_1 : decode prog_2_method_12_code 1 = .ok (.ifCond .lt 20, 3) := by decide +kernel
theorem d118_4 : decode prog_2_method_12_code 4 = .ok (.iload_n 1, 1) := by decide +kernel
theorem d118_5 : decode prog_2_method_12_code 5 = .ok (.aload_n 0, 1) := by decide +kernel
theorem d118_6 : decode prog_2_method_12_code 6 = .ok (.getfield 42, 3) := by decide +kernel
theorem d118_9 : decode prog_2_method_12_code 9 = .ok (.if_icmp .ge 12, 3) := by decide +kernel
theorem d118_12 : decode prog_2_method_12_code 12 = .ok (.aload_n 0, 1) := by decide +kernel
theorem d118_13 : decode prog_2_method_12_code 13 = .ok (.getfield 27, 3) := by decide +kernel
theorem d118_16 : decode prog_2_method_12_code 16 = .ok (.iload_n 1, 1) := by decide +kernel
theorem d118_17 : decode prog_2_method_12_code 17 = .ok (.iaload, 1) := by decide +kernel
theorem d118_18 : decode prog_2_method_12_code 18 = .ok (.goto 4, 3) := by decide +kernel
theorem d118_21 : decode prog_2_method_12_code 21 = .ok (.iconst (-1), 1) := by decide +kernel
theorem d118_22 : decode prog_2_method_12_code 22 = .ok (.ireturn, 1) := by decide +kernel
theorem m118 : pm_m 118 = some (⟨"TypeRules$Blocks", "cellsOf", "(I)I"⟩, prog_2_method_12_code, 2, (some FieldType.int), 5, 1, 6) := rfl
theorem sp118 {d : Nat} {σ : pm_S} {Q : Option Value → pm_S → Prop} {x : Int32} (hc : σ.1 5 8 ≤ 418) (h1 : 0 ≤ x → x < σ.1 5 8 → Q (some (.int (σ.2.2 29 x.toNatClampNeg))) σ) (h2 : ¬ (0 ≤ x ∧ x < σ.1 5 8) → Q (some (.int (-1))) σ) : pm_call pm_Y0 (d + 1) 118 [.ref 5, .int x] σ Q := by
  refine wq_m m118 (Nat.le_of_ble_eq_true rfl) (by decide) rfl ?_
  refine wq_l 1 d118_0 rfl rfl rfl rfl ?_
  refine wq_b 21 4 d118_1 rfl (by decide) rfl (fun c1 => ?_) (fun c1 => ?_)
  · -- pc 21
    refine wq_k 22 (-1) d118_21 (by decide) rfl ?_
    refine wq_ri d118_22 (rfl) ?_
    first | exact h1 (Int32.not_lt.mp (by assumption)) (Int32.not_le.mp (by assumption)) | exact h2 (fun q => absurd q.1 (Int32.not_le.mpr (by assumption))) | exact h2 (fun q => absurd q.2 (Int32.not_lt.mpr (by assumption)))
  · -- pc 4
    refine wq_l 5 d118_4 rfl rfl rfl rfl ?_
    refine wq_l 6 d118_5 rfl rfl rfl rfl ?_
    refine wq_gi (ci := 5) (j := 8) 9 d118_6 rfl rfl rfl rfl ?_
    refine wq_b 21 12 d118_9 rfl (by decide) rfl (fun c9 => ?_) (fun c9 => ?_)
    · -- pc 21
      refine wq_k 22 (-1) d118_21 (by decide) rfl ?_
      refine wq_ri d118_22 (rfl) ?_
      first | exact h1 (Int32.not_lt.mp (by assumption)) (Int32.not_le.mp (by assumption)) | exact h2 (fun q => absurd q.1 (Int32.not_le.mpr (by assumption))) | exact h2 (fun q => absurd q.2 (Int32.not_lt.mpr (by assumption)))
    · -- pc 12
      refine wq_l 13 d118_12 rfl rfl rfl rfl ?_
      refine wq_gr (ci := 5) (j := 3) (q := 29) 16 d118_13 rfl rfl rfl rfl ?_
      refine wq_l 17 d118_16 rfl rfl rfl rfl ?_
      refine wq_al 18 d118_17 rfl rfl rfl (vp_in_lt (Int32.not_lt.mp c1) (Int32.not_le.mp c9) hc (by decide)) ?_
      refine wq_g 22 d118_18 (by decide) ?_
      refine wq_ri d118_22 (rfl) ?_
      first | exact h1 (Int32.not_lt.mp (by assumption)) (Int32.not_le.mp (by assumption)) | exact h2 (fun q => absurd q.1 (Int32.not_le.mpr (by assumption))) | exact h2 (fun q => absurd q.2 (Int32.not_lt.mpr (by assumption)))
theorem d127_0 : decode prog_2_method_13_code 0 = .ok (.iload_n 1, 1) := by decide +kernel
theorem d127_1 : decode prog_2_method_13_code 1 = .ok (.ifCond .lt 20, 3) := by decide +kernel
theorem d127_4 : decode prog_2_method_13_code 4 = .ok (.iload_n 1, 1) := by decide +kernel
theorem d127_5 : decode prog_2_method_13_code 5 = .ok (.aload_n 0, 1) := by decide +kernel
theorem d127_6 : decode prog_2_method_13_code 6 = .ok (.getfield 42, 3) := by decide +kernel
theorem d127_9 : decode prog_2_method_13_code 9 = .ok (.if_icmp .ge 12, 3) := by decide +kernel
theorem d127_12 : decode prog_2_method_13_code 12 = .ok (.aload_n 0, 1) := by decide +kernel
theorem d127_13 : decode prog_2_method_13_code 13 = .ok (.getfield 30, 3) := by decide +kernel
theorem d127_16 : decode prog_2_method_13_code 16 = .ok (.iload_n 1, 1) := by decide +kernel
theorem d127_17 : decode prog_2_method_13_code 17 = .ok (.iaload, 1) := by decide +kernel
theorem d127_18 : decode prog_2_method_13_code 18 = .ok (.goto 4, 3) := by decide +kernel
theorem d127_21 : decode prog_2_method_13_code 21 = .ok (.iconst (-1), 1) := by decide +kernel
theorem d127_22 : decode prog_2_method_13_code 22 = .ok (.ireturn, 1) := by decide +kernel
theorem m127 : pm_m 127 = some (⟨"TypeRules$Blocks", "placeOf", "(I)I"⟩, prog_2_method_13_code, 2, (some FieldType.int), 5, 1, 6) := rfl
theorem sp127 {d : Nat} {σ : pm_S} {Q : Option Value → pm_S → Prop} {x : Int32} (hc : σ.1 5 8 ≤ 418) (h1 : 0 ≤ x → x < σ.1 5 8 → Q (some (.int (σ.2.2 30 x.toNatClampNeg))) σ) (h2 : ¬ (0 ≤ x ∧ x < σ.1 5 8) → Q (some (.int (-1))) σ) : pm_call pm_Y0 (d + 1) 127 [.ref 5, .int x] σ Q := by
  refine wq_m m127 (Nat.le_of_ble_eq_true rfl) (by decide) rfl ?_
  refine wq_l 1 d127_0 rfl rfl rfl rfl ?_
  refine wq_b 21 4 d127_1 rfl (by decide) rfl (fun c1 => ?_) (fun c1 => ?_)
  · -- pc 21
    refine wq_k 22 (-1) d127_21 (by decide) rfl ?_
    refine wq_ri d127_22 (rfl) ?_
    first | exact h1 (Int32.not_lt.mp (by assumption)) (Int32.not_le.mp (by assumption)) | exact h2 (fun q => absurd q.1 (Int32.not_le.mpr (by assumption))) | exact h2 (fun q => absurd q.2 (Int32.not_lt.mpr (by assumption)))
  · -- pc 4
    refine wq_l 5 d127_4 rfl rfl rfl rfl ?_
    refine wq_l 6 d127_5 rfl rfl rfl rfl ?_
    refine wq_gi (ci := 5) (j := 8) 9 d127_6 rfl rfl rfl rfl ?_
    refine wq_b 21 12 d127_9 rfl (by decide) rfl (fun c9 => ?_) (fun c9 => ?_)
    · -- pc 21
      refine wq_k 22 (-1) d127_21 (by decide) rfl ?_
      refine wq_ri d127_22 (rfl) ?_
      first | exact h1 (Int32.not_lt.mp (by assumption)) (Int32.not_le.mp (by assumption)) | exact h2 (fun q => absurd q.1 (Int32.not_le.mpr (by assumption))) | exact h2 (fun q => absurd q.2 (Int32.not_lt.mpr (by assumption)))
    · -- pc 12
      refine wq_l 13 d127_12 rfl rfl rfl rfl ?_
      refine wq_gr (ci := 5) (j := 4) (q := 30) 16 d127_13 rfl rfl rfl rfl ?_
      refine wq_l 17 d127_16 rfl rfl rfl rfl ?_
      refine wq_al 18 d127_17 rfl rfl rfl (vp_in_lt (Int32.not_lt.mp c1) (Int32.not_le.mp c9) hc (by decide)) ?_
      refine wq_g 22 d127_18 (by decide) ?_
      refine wq_ri d127_22 (rfl) ?_
      first | exact h1 (Int32.not_lt.mp (by assumption)) (Int32.not_le.mp (by assumption)) | exact h2 (fun q => absurd q.1 (Int32.not_le.mpr (by assumption))) | exact h2 (fun q => absurd q.2 (Int32.not_lt.mpr (by assumption)))
theorem d125_0 : decode prog_2_method_14_code 0 = .ok (.iload_n 1, 1) := by decide +kernel
theorem d125_1 : decode prog_2_method_14_code 1 = .ok (.ifCond .lt 20, 3) := by decide +kernel
theorem d125_4 : decode prog_2_method_14_code 4 = .ok (.iload_n 1, 1) := by decide +kernel
theorem d125_5 : decode prog_2_method_14_code 5 = .ok (.aload_n 0, 1) := by decide +kernel
theorem d125_6 : decode prog_2_method_14_code 6 = .ok (.getfield 42, 3) := by decide +kernel
theorem d125_9 : decode prog_2_method_14_code 9 = .ok (.if_icmp .ge 12, 3) := by decide +kernel
theorem d125_12 : decode prog_2_method_14_code 12 = .ok (.aload_n 0, 1) := by decide +kernel
theorem d125_13 : decode prog_2_method_14_code 13 = .ok (.getfield 33, 3) := by decide +kernel
theorem d125_16 : decode prog_2_method_14_code 16 = .ok (.iload_n 1, 1) := by decide +kernel
theorem d125_17 : decode prog_2_method_14_code 17 = .ok (.iaload, 1) := by decide +kernel
theorem d125_18 : decode prog_2_method_14_code 18 = .ok (.goto 4, 3) := by decide +kernel
theorem d125_21 : decode prog_2_method_14_code 21 = .ok (.iconst (-1), 1) := by decide +kernel
theorem d125_22 : decode prog_2_method_14_code 22 = .ok (.ireturn, 1) := by decide +kernel
theorem m125 : pm_m 125 = some (⟨"TypeRules$Blocks", "resultOf", "(I)I"⟩, prog_2_method_14_code, 2, (some FieldType.int), 5, 1, 6) := rfl
theorem sp125 {d : Nat} {σ : pm_S} {Q : Option Value → pm_S → Prop} {x : Int32} (hc : σ.1 5 8 ≤ 418) (h1 : 0 ≤ x → x < σ.1 5 8 → Q (some (.int (σ.2.2 31 x.toNatClampNeg))) σ) (h2 : ¬ (0 ≤ x ∧ x < σ.1 5 8) → Q (some (.int (-1))) σ) : pm_call pm_Y0 (d + 1) 125 [.ref 5, .int x] σ Q := by
  refine wq_m m125 (Nat.le_of_ble_eq_true rfl) (by decide) rfl ?_
  refine wq_l 1 d125_0 rfl rfl rfl rfl ?_
  refine wq_b 21 4 d125_1 rfl (by decide) rfl (fun c1 => ?_) (fun c1 => ?_)
  · -- pc 21
    refine wq_k 22 (-1) d125_21 (by decide) rfl ?_
    refine wq_ri d125_22 (rfl) ?_
    first | exact h1 (Int32.not_lt.mp (by assumption)) (Int32.not_le.mp (by assumption)) | exact h2 (fun q => absurd q.1 (Int32.not_le.mpr (by assumption))) | exact h2 (fun q => absurd q.2 (Int32.not_lt.mpr (by assumption)))
  · -- pc 4
    refine wq_l 5 d125_4 rfl rfl rfl rfl ?_
    refine wq_l 6 d125_5 rfl rfl rfl rfl ?_
    refine wq_gi (ci := 5) (j := 8) 9 d125_6 rfl rfl rfl rfl ?_
    refine wq_b 21 12 d125_9 rfl (by decide) rfl (fun c9 => ?_) (fun c9 => ?_)
    · -- pc 21
      refine wq_k 22 (-1) d125_21 (by decide) rfl ?_
      refine wq_ri d125_22 (rfl) ?_
      first | exact h1 (Int32.not_lt.mp (by assumption)) (Int32.not_le.mp (by assumption)) | exact h2 (fun q => absurd q.1 (Int32.not_le.mpr (by assumption))) | exact h2 (fun q => absurd q.2 (Int32.not_lt.mpr (by assumption)))
    · -- pc 12
      refine wq_l 13 d125_12 rfl rfl rfl rfl ?_
      refine wq_gr (ci := 5) (j := 5) (q := 31) 16 d125_13 rfl rfl rfl rfl ?_
      refine wq_l 17 d125_16 rfl rfl rfl rfl ?_
      refine wq_al 18 d125_17 rfl rfl rfl (vp_in_lt (Int32.not_lt.mp c1) (Int32.not_le.mp c9) hc (by decide)) ?_
      refine wq_g 22 d125_18 (by decide) ?_
      refine wq_ri d125_22 (rfl) ?_
      first | exact h1 (Int32.not_lt.mp (by assumption)) (Int32.not_le.mp (by assumption)) | exact h2 (fun q => absurd q.1 (Int32.not_le.mpr (by assumption))) | exact h2 (fun q => absurd q.2 (Int32.not_lt.mpr (by assumption)))
theorem d120_0 : decode prog_2_method_15_code 0 = .ok (.iload_n 1, 1) := by decide +kernel
theorem d120_1 : decode prog_2_method_15_code 1 = .ok (.ifCond .lt 20, 3) := by decide +kernel
theorem d120_4 : decode prog_2_method_15_code 4 = .ok (.iload_n 1, 1) := by decide +kernel
theorem d120_5 : decode prog_2_method_15_code 5 = .ok (.aload_n 0, 1) := by decide +kernel
theorem d120_6 : decode prog_2_method_15_code 6 = .ok (.getfield 42, 3) := by decide +kernel
theorem d120_9 : decode prog_2_method_15_code 9 = .ok (.if_icmp .ge 12, 3) := by decide +kernel
theorem d120_12 : decode prog_2_method_15_code 12 = .ok (.aload_n 0, 1) := by decide +kernel
theorem d120_13 : decode prog_2_method_15_code 13 = .ok (.getfield 36, 3) := by decide +kernel
theorem d120_16 : decode prog_2_method_15_code 16 = .ok (.iload_n 1, 1) := by decide +kernel
theorem d120_17 : decode prog_2_method_15_code 17 = .ok (.iaload, 1) := by decide +kernel
theorem d120_18 : decode prog_2_method_15_code 18 = .ok (.goto 4, 3) := by decide +kernel
theorem d120_21 : decode prog_2_method_15_code 21 = .ok (.iconst (-1), 1) := by decide +kernel
theorem d120_22 : decode prog_2_method_15_code 22 = .ok (.ireturn, 1) := by decide +kernel
theorem m120 : pm_m 120 = some (⟨"TypeRules$Blocks", "inputsOf", "(I)I"⟩, prog_2_method_15_code, 2, (some FieldType.int), 5, 1, 6) := rfl
theorem sp120 {d : Nat} {σ : pm_S} {Q : Option Value → pm_S → Prop} {x : Int32} (hc : σ.1 5 8 ≤ 418) (h1 : 0 ≤ x → x < σ.1 5 8 → Q (some (.int (σ.2.2 32 x.toNatClampNeg))) σ) (h2 : ¬ (0 ≤ x ∧ x < σ.1 5 8) → Q (some (.int (-1))) σ) : pm_call pm_Y0 (d + 1) 120 [.ref 5, .int x] σ Q := by
  refine wq_m m120 (Nat.le_of_ble_eq_true rfl) (by decide) rfl ?_
  refine wq_l 1 d120_0 rfl rfl rfl rfl ?_
  refine wq_b 21 4 d120_1 rfl (by decide) rfl (fun c1 => ?_) (fun c1 => ?_)
  · -- pc 21
    refine wq_k 22 (-1) d120_21 (by decide) rfl ?_
    refine wq_ri d120_22 (rfl) ?_
    first | exact h1 (Int32.not_lt.mp (by assumption)) (Int32.not_le.mp (by assumption)) | exact h2 (fun q => absurd q.1 (Int32.not_le.mpr (by assumption))) | exact h2 (fun q => absurd q.2 (Int32.not_lt.mpr (by assumption)))
  · -- pc 4
    refine wq_l 5 d120_4 rfl rfl rfl rfl ?_
    refine wq_l 6 d120_5 rfl rfl rfl rfl ?_
    refine wq_gi (ci := 5) (j := 8) 9 d120_6 rfl rfl rfl rfl ?_
    refine wq_b 21 12 d120_9 rfl (by decide) rfl (fun c9 => ?_) (fun c9 => ?_)
    · -- pc 21
      refine wq_k 22 (-1) d120_21 (by decide) rfl ?_
      refine wq_ri d120_22 (rfl) ?_
      first | exact h1 (Int32.not_lt.mp (by assumption)) (Int32.not_le.mp (by assumption)) | exact h2 (fun q => absurd q.1 (Int32.not_le.mpr (by assumption))) | exact h2 (fun q => absurd q.2 (Int32.not_lt.mpr (by assumption)))
    · -- pc 12
      refine wq_l 13 d120_12 rfl rfl rfl rfl ?_
      refine wq_gr (ci := 5) (j := 6) (q := 32) 16 d120_13 rfl rfl rfl rfl ?_
      refine wq_l 17 d120_16 rfl rfl rfl rfl ?_
      refine wq_al 18 d120_17 rfl rfl rfl (vp_in_lt (Int32.not_lt.mp c1) (Int32.not_le.mp c9) hc (by decide)) ?_
      refine wq_g 22 d120_18 (by decide) ?_
      refine wq_ri d120_22 (rfl) ?_
      first | exact h1 (Int32.not_lt.mp (by assumption)) (Int32.not_le.mp (by assumption)) | exact h2 (fun q => absurd q.1 (Int32.not_le.mpr (by assumption))) | exact h2 (fun q => absurd q.2 (Int32.not_lt.mpr (by assumption)))
theorem d7_0 : decode prog_1_method_7_code 0 = .ok (.iload_n 1, 1) := by decide +kernel
theorem d7_1 : decode prog_1_method_7_code 1 = .ok (.aload_n 0, 1) := by decide +kernel
theorem d7_2 : decode prog_1_method_7_code 2 = .ok (.getfield 67, 3) := by decide +kernel
theorem d7_5 : decode prog_1_method_7_code 5 = .ok (.if_icmp .ge 14, 3) := by decide +kernel
theorem d7_8 : decode prog_1_method_7_code 8 = .ok (.aload_n 0, 1) := by decide +kernel
theorem d7_9 : decode prog_1_method_7_code 9 = .ok (.getfield 28, 3) := by decide +kernel
theorem d7_12 : decode prog_1_method_7_code 12 = .ok (.iload_n 1, 1) := by decide +kernel
theorem d7_13 : decode prog_1_method_7_code 13 = .ok (.invokevirtual 105, 3) := by decide +kernel
theorem d7_16 : decode prog_1_method_7_code 16 = .ok (.goto 4, 3) := by decide +kernel
theorem d7_19 : decode prog_1_method_7_code 19 = .ok (.iconst (-1), 1) := by decide +kernel
theorem d7_20 : decode prog_1_method_7_code 20 = .ok (.ireturn, 1) := by decide +kernel
theorem m7 : pm_m 7 = some (⟨"TypeRules", "kind", "(I)I"⟩, prog_1_method_7_code, 2, (some FieldType.int), 0, 1, 1) := rfl
theorem sp7 {d : Nat} {σ : pm_S} {Q : Option Value → pm_S → Prop} {x : Int32} (hc : σ.1 3 8 ≤ 16386) (h1 : 0 ≤ x → x < σ.1 3 8 → x < σ.1 0 9 → Q (some (.int (σ.2.2 19 x.toNatClampNeg))) σ) (h2 : ¬ (0 ≤ x ∧ x < σ.1 3 8 ∧ x < σ.1 0 9) → Q (some (.int (-1))) σ) : pm_call pm_Y0 (d + 2) 7 [.ref 0, .int x] σ Q := by
  refine wq_m m7 (Nat.le_of_ble_eq_true rfl) (by decide) rfl ?_
  refine wq_l 1 d7_0 rfl rfl rfl rfl ?_
  refine wq_l 2 d7_1 rfl rfl rfl rfl ?_
  refine wq_gi (ci := 0) (j := 9) 5 d7_2 rfl rfl rfl rfl ?_
  refine wq_b 19 8 d7_5 rfl (by decide) rfl (fun c5 => ?_) (fun c5 => ?_)
  · -- pc 19
    refine wq_k 20 (-1) d7_19 (by decide) rfl ?_
    refine wq_ri d7_20 (rfl) ?_
    exact h2 (fun q => absurd q.2.2 (Int32.not_lt.mpr c5))
  · -- pc 8
    refine wq_l 9 d7_8 rfl rfl rfl rfl ?_
    refine wq_gr (ci := 0) (j := 2) (q := 3) 12 d7_9 rfl rfl rfl rfl ?_
    refine wq_l 13 d7_12 rfl rfl rfl rfl ?_
    refine wq_v 16 [_] d7_13 rfl rfl m65 rfl rfl (by decide) rfl (sp65 hc (fun a1 a2 => ?_) (fun a1 => ?_))
    · -- in
      refine wq_g 20 d7_16 (by decide) ?_
      refine wq_ri d7_20 (rfl) ?_
      exact h1 a1 a2 (Int32.not_le.mp c5)
    · -- out
      refine wq_g 20 d7_16 (by decide) ?_
      refine wq_ri d7_20 (rfl) ?_
      exact h2 (fun q => a1 ⟨q.1, q.2.1⟩)
theorem d8_0 : decode prog_1_method_8_code 0 = .ok (.iload_n 1, 1) := by decide +kernel
theorem d8_1 : decode prog_1_method_8_code 1 = .ok (.aload_n 0, 1) := by decide +kernel
theorem d8_2 : decode prog_1_method_8_code 2 = .ok (.getfield 67, 3) := by decide +kernel
theorem d8_5 : decode prog_1_method_8_code 5 = .ok (.if_icmp .ge 14, 3) := by decide +kernel
theorem d8_8 : decode prog_1_method_8_code 8 = .ok (.aload_n 0, 1) := by decide +kernel
theorem d8_9 : decode prog_1_method_8_code 9 = .ok (.getfield 28, 3) := by decide +kernel
theorem d8_12 : decode prog_1_method_8_code 12 = .ok (.iload_n 1, 1) := by decide +kernel
theorem d8_13 : decode prog_1_method_8_code 13 = .ok (.invokevirtual 109, 3) := by decide +kernel
theorem d8_16 : decode prog_1_method_8_code 16 = .ok (.goto 4, 3) := by decide +kernel
theorem d8_19 : decode prog_1_method_8_code 19 = .ok (.iconst (-1), 1) := by decide +kernel
theorem d8_20 : decode prog_1_method_8_code 20 = .ok (.ireturn, 1) := by decide +kernel
theorem m8 : pm_m 8 = some (⟨"TypeRules", "type", "(I)I"⟩, prog_1_method_8_code, 2, (some FieldType.int), 0, 1, 1) := rfl
theorem sp8 {d : Nat} {σ : pm_S} {Q : Option Value → pm_S → Prop} {x : Int32} (hc : σ.1 3 8 ≤ 16386) (h1 : 0 ≤ x → x < σ.1 3 8 → x < σ.1 0 9 → Q (some (.int (σ.2.2 24 x.toNatClampNeg))) σ) (h2 : ¬ (0 ≤ x ∧ x < σ.1 3 8 ∧ x < σ.1 0 9) → Q (some (.int (-1))) σ) : pm_call pm_Y0 (d + 2) 8 [.ref 0, .int x] σ Q := by
  refine wq_m m8 (Nat.le_of_ble_eq_true rfl) (by decide) rfl ?_
  refine wq_l 1 d8_0 rfl rfl rfl rfl ?_
  refine wq_l 2 d8_1 rfl rfl rfl rfl ?_
  refine wq_gi (ci := 0) (j := 9) 5 d8_2 rfl rfl rfl rfl ?_
  refine wq_b 19 8 d8_5 rfl (by decide) rfl (fun c5 => ?_) (fun c5 => ?_)
  · -- pc 19
    refine wq_k 20 (-1) d8_19 (by decide) rfl ?_
    refine wq_ri d8_20 (rfl) ?_
    exact h2 (fun q => absurd q.2.2 (Int32.not_lt.mpr c5))
  · -- pc 8
    refine wq_l 9 d8_8 rfl rfl rfl rfl ?_
    refine wq_gr (ci := 0) (j := 2) (q := 3) 12 d8_9 rfl rfl rfl rfl ?_
    refine wq_l 13 d8_12 rfl rfl rfl rfl ?_
    refine wq_v 16 [_] d8_13 rfl rfl m71 rfl rfl (by decide) rfl (sp71 hc (fun a1 a2 => ?_) (fun a1 => ?_))
    · -- in
      refine wq_g 20 d8_16 (by decide) ?_
      refine wq_ri d8_20 (rfl) ?_
      exact h1 a1 a2 (Int32.not_le.mp c5)
    · -- out
      refine wq_g 20 d8_16 (by decide) ?_
      refine wq_ri d8_20 (rfl) ?_
      exact h2 (fun q => a1 ⟨q.1, q.2.1⟩)
theorem d9_0 : decode prog_1_method_9_code 0 = .ok (.iload_n 1, 1) := by decide +kernel
theorem d9_1 : decode prog_1_method_9_code 1 = .ok (.aload_n 0, 1) := by decide +kernel
theorem d9_2 : decode prog_1_method_9_code 2 = .ok (.getfield 67, 3) := by decide +kernel
theorem d9_5 : decode prog_1_method_9_code 5 = .ok (.if_icmp .ge 14, 3) := by decide +kernel
theorem d9_8 : decode prog_1_method_9_code 8 = .ok (.aload_n 0, 1) := by decide +kernel
theorem d9_9 : decode prog_1_method_9_code 9 = .ok (.getfield 28, 3) := by decide +kernel
theorem d9_12 : decode prog_1_method_9_code 12 = .ok (.iload_n 1, 1) := by decide +kernel
theorem d9_13 : decode prog_1_method_9_code 13 = .ok (.invokevirtual 112, 3) := by decide +kernel
theorem d9_16 : decode prog_1_method_9_code 16 = .ok (.goto 4, 3) := by decide +kernel
theorem d9_19 : decode prog_1_method_9_code 19 = .ok (.iconst (-1), 1) := by decide +kernel
theorem d9_20 : decode prog_1_method_9_code 20 = .ok (.ireturn, 1) := by decide +kernel
theorem m9 : pm_m 9 = some (⟨"TypeRules", "cell", "(I)I"⟩, prog_1_method_9_code, 2, (some FieldType.int), 0, 1, 1) := rfl
theorem sp9 {d : Nat} {σ : pm_S} {Q : Option Value → pm_S → Prop} {x : Int32} (hc : σ.1 3 8 ≤ 16386) (h1 : 0 ≤ x → x < σ.1 3 8 → x < σ.1 0 9 → Q (some (.int (σ.2.2 25 x.toNatClampNeg))) σ) (h2 : ¬ (0 ≤ x ∧ x < σ.1 3 8 ∧ x < σ.1 0 9) → Q (some (.int (-1))) σ) : pm_call pm_Y0 (d + 2) 9 [.ref 0, .int x] σ Q := by
  refine wq_m m9 (Nat.le_of_ble_eq_true rfl) (by decide) rfl ?_
  refine wq_l 1 d9_0 rfl rfl rfl rfl ?_
  refine wq_l 2 d9_1 rfl rfl rfl rfl ?_
  refine wq_gi (ci := 0) (j := 9) 5 d9_2 rfl rfl rfl rfl ?_
  refine wq_b 19 8 d9_5 rfl (by decide) rfl (fun c5 => ?_) (fun c5 => ?_)
  · -- pc 19
    refine wq_k 20 (-1) d9_19 (by decide) rfl ?_
    refine wq_ri d9_20 (rfl) ?_
    exact h2 (fun q => absurd q.2.2 (Int32.not_lt.mpr c5))
  · -- pc 8
    refine wq_l 9 d9_8 rfl rfl rfl rfl ?_
    refine wq_gr (ci := 0) (j := 2) (q := 3) 12 d9_9 rfl rfl rfl rfl ?_
    refine wq_l 13 d9_12 rfl rfl rfl rfl ?_
    refine wq_v 16 [_] d9_13 rfl rfl m75 rfl rfl (by decide) rfl (sp75 hc (fun a1 a2 => ?_) (fun a1 => ?_))
    · -- in
      refine wq_g 20 d9_16 (by decide) ?_
      refine wq_ri d9_20 (rfl) ?_
      exact h1 a1 a2 (Int32.not_le.mp c5)
    · -- out
      refine wq_g 20 d9_16 (by decide) ?_
      refine wq_ri d9_20 (rfl) ?_
      exact h2 (fun q => a1 ⟨q.1, q.2.1⟩)
theorem d10_0 : decode prog_1_method_10_code 0 = .ok (.iload_n 1, 1) := by decide +kernel
theorem d10_1 : decode prog_1_method_10_code 1 = .ok (.aload_n 0, 1) := by decide +kernel
theorem d10_2 : decode prog_1_method_10_code 2 = .ok (.getfield 67, 3) := by decide +kernel
theorem d10_5 : decode prog_1_method_10_code 5 = .ok (.if_icmp .ge 14, 3) := by decide +kernel
theorem d10_8 : decode prog_1_method_10_code 8 = .ok (.aload_n 0, 1) := by decide +kernel
theorem d10_9 : decode prog_1_method_10_code 9 = .ok (.getfield 28, 3) := by decide +kernel
theorem d10_12 : decode prog_1_method_10_code 12 = .ok (.iload_n 1, 1) := by decide +kernel
theorem d10_13 : decode prog_1_method_10_code 13 = .ok (.invokevirtual 115, 3) := by decide +kernel
theorem d10_16 : decode prog_1_method_10_code 16 = .ok (.goto 4, 3) := by decide +kernel
theorem d10_19 : decode prog_1_method_10_code 19 = .ok (.iconst (-1), 1) := by decide +kernel
theorem d10_20 : decode prog_1_method_10_code 20 = .ok (.ireturn, 1) := by decide +kernel
theorem m10 : pm_m 10 = some (⟨"TypeRules", "meaning", "(I)I"⟩, prog_1_method_10_code, 2, (some FieldType.int), 0, 1, 1) := rfl
theorem sp10 {d : Nat} {σ : pm_S} {Q : Option Value → pm_S → Prop} {x : Int32} (hc : σ.1 3 8 ≤ 16386) (h1 : 0 ≤ x → x < σ.1 3 8 → x < σ.1 0 9 → Q (some (.int (σ.2.2 26 x.toNatClampNeg))) σ) (h2 : ¬ (0 ≤ x ∧ x < σ.1 3 8 ∧ x < σ.1 0 9) → Q (some (.int (-1))) σ) : pm_call pm_Y0 (d + 2) 10 [.ref 0, .int x] σ Q := by
  refine wq_m m10 (Nat.le_of_ble_eq_true rfl) (by decide) rfl ?_
  refine wq_l 1 d10_0 rfl rfl rfl rfl ?_
  refine wq_l 2 d10_1 rfl rfl rfl rfl ?_
  refine wq_gi (ci := 0) (j := 9) 5 d10_2 rfl rfl rfl rfl ?_
  refine wq_b 19 8 d10_5 rfl (by decide) rfl (fun c5 => ?_) (fun c5 => ?_)
  · -- pc 19
    refine wq_k 20 (-1) d10_19 (by decide) rfl ?_
    refine wq_ri d10_20 (rfl) ?_
    exact h2 (fun q => absurd q.2.2 (Int32.not_lt.mpr c5))
  · -- pc 8
    refine wq_l 9 d10_8 rfl rfl rfl rfl ?_
    refine wq_gr (ci := 0) (j := 2) (q := 3) 12 d10_9 rfl rfl rfl rfl ?_
    refine wq_l 13 d10_12 rfl rfl rfl rfl ?_
    refine wq_v 16 [_] d10_13 rfl rfl m76 rfl rfl (by decide) rfl (sp76 hc (fun a1 a2 => ?_) (fun a1 => ?_))
    · -- in
      refine wq_g 20 d10_16 (by decide) ?_
      refine wq_ri d10_20 (rfl) ?_
      exact h1 a1 a2 (Int32.not_le.mp c5)
    · -- out
      refine wq_g 20 d10_16 (by decide) ?_
      refine wq_ri d10_20 (rfl) ?_
      exact h2 (fun q => a1 ⟨q.1, q.2.1⟩)
theorem d11_0 : decode prog_1_method_11_code 0 = .ok (.iload_n 1, 1) := by decide +kernel
theorem d11_1 : decode prog_1_method_11_code 1 = .ok (.ifCond .lt 11, 3) := by decide +kernel
theorem d11_4 : decode prog_1_method_11_code 4 = .ok (.iload_n 1, 1) := by decide +kernel
theorem d11_5 : decode prog_1_method_11_code 5 = .ok (.aload_n 0, 1) := by decide +kernel
theorem d11_6 : decode prog_1_method_11_code 6 = .ok (.getfield 70, 3) := by decide +kernel
theorem d11_9 : decode prog_1_method_11_code 9 = .ok (.if_icmp .lt 5, 3) := by decide +kernel
theorem d11_12 : decode prog_1_method_11_code 12 = .ok (.iconst (-1), 1) := by decide +kernel
theorem d11_13 : decode prog_1_method_11_code 13 = .ok (.ireturn, 1) := by decide +kernel
theorem d11_14 : decode prog_1_method_11_code 14 = .ok (.aload_n 0, 1) := by decide +kernel
theorem d11_15 : decode prog_1_method_11_code 15 = .ok (.getfield 44, 3) := by decide +kernel
theorem d11_18 : decode prog_1_method_11_code 18 = .ok (.iload_n 1, 1) := by decide +kernel
theorem d11_19 : decode prog_1_method_11_code 19 = .ok (.bipush 9, 2) := by decide +kernel
theorem d11_21 : decode prog_1_method_11_code 21 = .ok (.iadd, 1) := by decide +kernel
theorem d11_22 : decode prog_1_method_11_code 22 = .ok (.invokevirtual 118, 3) := by decide +kernel
theorem d11_25 : decode prog_1_method_11_code 25 = .ok (.ireturn, 1) := by decide +kernel
theorem m11 : pm_m 11 = some (⟨"TypeRules", "frame", "(I)I"⟩, prog_1_method_11_code, 2, (some FieldType.int), 0, 1, 1) := rfl
theorem sp11 {d : Nat} {σ : pm_S} {Q : Option Value → pm_S → Prop} {x : Int32} (hc : σ.1 5 8 ≤ 418) (h1 : 0 ≤ x → x < σ.1 0 10 → 0 ≤ x + 9 → x + 9 < σ.1 5 8 → Q (some (.int (σ.2.2 29 (x + 9).toNatClampNeg))) σ) (h2 : ¬ (0 ≤ x ∧ x < σ.1 0 10 ∧ 0 ≤ x + 9 ∧ x + 9 < σ.1 5 8) → Q (some (.int (-1))) σ) : pm_call pm_Y0 (d + 2) 11 [.ref 0, .int x] σ Q := by
  refine wq_m m11 (Nat.le_of_ble_eq_true rfl) (by decide) rfl ?_
  refine wq_l 1 d11_0 rfl rfl rfl rfl ?_
  refine wq_b 12 4 d11_1 rfl (by decide) rfl (fun c1 => ?_) (fun c1 => ?_)
  · -- pc 12
    refine wq_k 13 (-1) d11_12 (by decide) rfl ?_
    refine wq_ri d11_13 (rfl) ?_
    first | exact h2 (fun q => absurd q.1 (Int32.not_le.mpr (by assumption))) | exact h2 (fun q => absurd q.2.1 (by assumption))
  · -- pc 4
    refine wq_l 5 d11_4 rfl rfl rfl rfl ?_
    refine wq_l 6 d11_5 rfl rfl rfl rfl ?_
    refine wq_gi (ci := 0) (j := 10) 9 d11_6 rfl rfl rfl rfl ?_
    refine wq_b 14 12 d11_9 rfl (by decide) rfl (fun c9 => ?_) (fun c9 => ?_)
    · -- pc 14
      refine wq_l 15 d11_14 rfl rfl rfl rfl ?_
      refine wq_gr (ci := 0) (j := 4) (q := 5) 18 d11_15 rfl rfl rfl rfl ?_
      refine wq_l 19 d11_18 rfl rfl rfl rfl ?_
      refine wq_k 21 9 d11_19 (by decide) rfl ?_
      refine wq_a 22 d11_21 rfl rfl ?_
      refine wq_v 25 [_] d11_22 rfl rfl m118 rfl rfl (by decide) rfl (sp118 hc (fun a1 a2 => ?_) (fun a1 => ?_))
      · -- in
        refine wq_ri d11_25 (rfl) ?_
        exact h1 (Int32.not_lt.mp c1) c9 a1 a2
      · -- out
        refine wq_ri d11_25 (rfl) ?_
        exact h2 (fun q => a1 ⟨q.2.2.1, q.2.2.2⟩)
    · -- pc 12
      refine wq_k 13 (-1) d11_12 (by decide) rfl ?_
      refine wq_ri d11_13 (rfl) ?_
      first | exact h2 (fun q => absurd q.1 (Int32.not_le.mpr (by assumption))) | exact h2 (fun q => absurd q.2.1 (by assumption))
theorem d12_0 : decode prog_1_method_12_code 0 = .ok (.iload_n 1, 1) := by decide +kernel
theorem d12_1 : decode prog_1_method_12_code 1 = .ok (.ifCond .lt 11, 3) := by decide +kernel
theorem d12_4 : decode prog_1_method_12_code 4 = .ok (.iload_n 1, 1) := by decide +kernel
theorem d12_5 : decode prog_1_method_12_code 5 = .ok (.aload_n 0, 1) := by decide +kernel
theorem d12_6 : decode prog_1_method_12_code 6 = .ok (.getfield 70, 3) := by decide +kernel
theorem d12_9 : decode prog_1_method_12_code 9 = .ok (.if_icmp .lt 5, 3) := by decide +kernel
theorem d12_12 : decode prog_1_method_12_code 12 = .ok (.iconst (-1), 1) := by decide +kernel
theorem d12_13 : decode prog_1_method_12_code 13 = .ok (.ireturn, 1) := by decide +kernel
theorem d12_14 : decode prog_1_method_12_code 14 = .ok (.aload_n 0, 1) := by decide +kernel
theorem d12_15 : decode prog_1_method_12_code 15 = .ok (.getfield 44, 3) := by decide +kernel
theorem d12_18 : decode prog_1_method_12_code 18 = .ok (.iload_n 1, 1) := by decide +kernel
theorem d12_19 : decode prog_1_method_12_code 19 = .ok (.bipush 9, 2) := by decide +kernel
theorem d12_21 : decode prog_1_method_12_code 21 = .ok (.iadd, 1) := by decide +kernel
theorem d12_22 : decode prog_1_method_12_code 22 = .ok (.invokevirtual 121, 3) := by decide +kernel
theorem d12_25 : decode prog_1_method_12_code 25 = .ok (.ireturn, 1) := by decide +kernel
theorem m12 : pm_m 12 = some (⟨"TypeRules", "place", "(I)I"⟩, prog_1_method_12_code, 2, (some FieldType.int), 0, 1, 1) := rfl
theorem sp12 {d : Nat} {σ : pm_S} {Q : Option Value → pm_S → Prop} {x : Int32} (hc : σ.1 5 8 ≤ 418) (h1 : 0 ≤ x → x < σ.1 0 10 → 0 ≤ x + 9 → x + 9 < σ.1 5 8 → Q (some (.int (σ.2.2 30 (x + 9).toNatClampNeg))) σ) (h2 : ¬ (0 ≤ x ∧ x < σ.1 0 10 ∧ 0 ≤ x + 9 ∧ x + 9 < σ.1 5 8) → Q (some (.int (-1))) σ) : pm_call pm_Y0 (d + 2) 12 [.ref 0, .int x] σ Q := by
  refine wq_m m12 (Nat.le_of_ble_eq_true rfl) (by decide) rfl ?_
  refine wq_l 1 d12_0 rfl rfl rfl rfl ?_
  refine wq_b 12 4 d12_1 rfl (by decide) rfl (fun c1 => ?_) (fun c1 => ?_)
  · -- pc 12
    refine wq_k 13 (-1) d12_12 (by decide) rfl ?_
    refine wq_ri d12_13 (rfl) ?_
    first | exact h2 (fun q => absurd q.1 (Int32.not_le.mpr (by assumption))) | exact h2 (fun q => absurd q.2.1 (by assumption))
  · -- pc 4
    refine wq_l 5 d12_4 rfl rfl rfl rfl ?_
    refine wq_l 6 d12_5 rfl rfl rfl rfl ?_
    refine wq_gi (ci := 0) (j := 10) 9 d12_6 rfl rfl rfl rfl ?_
    refine wq_b 14 12 d12_9 rfl (by decide) rfl (fun c9 => ?_) (fun c9 => ?_)
    · -- pc 14
      refine wq_l 15 d12_14 rfl rfl rfl rfl ?_
      refine wq_gr (ci := 0) (j := 4) (q := 5) 18 d12_15 rfl rfl rfl rfl ?_
      refine wq_l 19 d12_18 rfl rfl rfl rfl ?_
      refine wq_k 21 9 d12_19 (by decide) rfl ?_
      refine wq_a 22 d12_21 rfl rfl ?_
      refine wq_v 25 [_] d12_22 rfl rfl m127 rfl rfl (by decide) rfl (sp127 hc (fun a1 a2 => ?_) (fun a1 => ?_))
      · -- in
        refine wq_ri d12_25 (rfl) ?_
        exact h1 (Int32.not_lt.mp c1) c9 a1 a2
      · -- out
        refine wq_ri d12_25 (rfl) ?_
        exact h2 (fun q => a1 ⟨q.2.2.1, q.2.2.2⟩)
    · -- pc 12
      refine wq_k 13 (-1) d12_12 (by decide) rfl ?_
      refine wq_ri d12_13 (rfl) ?_
      first | exact h2 (fun q => absurd q.1 (Int32.not_le.mpr (by assumption))) | exact h2 (fun q => absurd q.2.1 (by assumption))
theorem d6_0 : decode prog_1_method_6_code 0 = .ok (.iload_n 1, 1) := by decide +kernel
theorem d6_1 : decode prog_1_method_6_code 1 = .ok (.tableswitch 60 0 4 #[35, 40, 45, 50, 55], 35) := by decide +kernel
theorem d6_36 : decode prog_1_method_6_code 36 = .ok (.aload_n 0, 1) := by decide +kernel
theorem d6_37 : decode prog_1_method_6_code 37 = .ok (.getfield 61, 3) := by decide +kernel
theorem d6_40 : decode prog_1_method_6_code 40 = .ok (.ireturn, 1) := by decide +kernel
theorem d6_41 : decode prog_1_method_6_code 41 = .ok (.aload_n 0, 1) := by decide +kernel
theorem d6_42 : decode prog_1_method_6_code 42 = .ok (.getfield 64, 3) := by decide +kernel
theorem d6_45 : decode prog_1_method_6_code 45 = .ok (.ireturn, 1) := by decide +kernel
theorem d6_46 : decode prog_1_method_6_code 46 = .ok (.aload_n 0, 1) := by decide +kernel
theorem d6_47 : decode prog_1_method_6_code 47 = .ok (.getfield 67, 3) := by decide +kernel
theorem d6_50 : decode prog_1_method_6_code 50 = .ok (.ireturn, 1) := by decide +kernel
theorem d6_51 : decode prog_1_method_6_code 51 = .ok (.aload_n 0, 1) := by decide +kernel
theorem d6_52 : decode prog_1_method_6_code 52 = .ok (.getfield 70, 3) := by decide +kernel
theorem d6_55 : decode prog_1_method_6_code 55 = .ok (.ireturn, 1) := by decide +kernel
theorem d6_56 : decode prog_1_method_6_code 56 = .ok (.aload_n 0, 1) := by decide +kernel
theorem d6_57 : decode prog_1_method_6_code 57 = .ok (.getfield 73, 3) := by decide +kernel
theorem d6_60 : decode prog_1_method_6_code 60 = .ok (.ireturn, 1) := by decide +kernel
theorem d6_61 : decode prog_1_method_6_code 61 = .ok (.iconst (-1), 1) := by decide +kernel
theorem d6_62 : decode prog_1_method_6_code 62 = .ok (.ireturn, 1) := by decide +kernel
theorem m6 : pm_m 6 = some (⟨"TypeRules", "count", "(I)I"⟩, prog_1_method_6_code, 2, (some FieldType.int), 0, 1, 1) := rfl
theorem sp6 {d : Nat} {σ : pm_S} {Q : Option Value → pm_S → Prop} {x : Int32} (h0 : x = 0 → Q (some (.int (σ.1 0 7))) σ) (h1 : x = 1 → Q (some (.int (σ.1 0 8))) σ) (h2 : x = 2 → Q (some (.int (σ.1 0 9))) σ) (h3 : x = 3 → Q (some (.int (σ.1 0 10))) σ) (h4 : x = 4 → Q (some (.int (σ.1 0 11))) σ) (h5 : ¬ x = 0 → ¬ x = 1 → ¬ x = 2 → ¬ x = 3 → ¬ x = 4 → Q (some (.int (-1))) σ) : pm_call pm_Y0 (d + 1) 6 [.ref 0, .int x] σ Q := by
  refine wq_m m6 (Nat.le_of_ble_eq_true rfl) (by decide) rfl ?_
  refine wq_l 1 d6_0 rfl rfl rfl rfl ?_
  refine wq_tw [(0, 36), (1, 41), (2, 46), (3, 51), (4, 56)] 61 d6_1 (by decide) (List.forall_mem_cons.mpr ⟨fun e1 => ?_, List.forall_mem_cons.mpr ⟨fun e1 => ?_, List.forall_mem_cons.mpr ⟨fun e1 => ?_, List.forall_mem_cons.mpr ⟨fun e1 => ?_, List.forall_mem_cons.mpr ⟨fun e1 => ?_, fun _ h => absurd h List.not_mem_nil⟩⟩⟩⟩⟩) (fun e1 => ?_)
  · -- case 0
    refine wq_l 37 d6_36 rfl rfl rfl rfl ?_
    refine wq_gi (ci := 0) (j := 7) 40 d6_37 rfl rfl rfl rfl ?_
    refine wq_ri d6_40 (rfl) ?_
    first | exact h0 e1 | exact h1 e1 | exact h2 e1 | exact h3 e1 | exact h4 e1 | exact h5 (e1 (0, 36) (by decide)) (e1 (1, 41) (by decide)) (e1 (2, 46) (by decide)) (e1 (3, 51) (by decide)) (e1 (4, 56) (by decide))
  · -- case 1
    refine wq_l 42 d6_41 rfl rfl rfl rfl ?_
    refine wq_gi (ci := 0) (j := 8) 45 d6_42 rfl rfl rfl rfl ?_
    refine wq_ri d6_45 (rfl) ?_
    first | exact h0 e1 | exact h1 e1 | exact h2 e1 | exact h3 e1 | exact h4 e1 | exact h5 (e1 (0, 36) (by decide)) (e1 (1, 41) (by decide)) (e1 (2, 46) (by decide)) (e1 (3, 51) (by decide)) (e1 (4, 56) (by decide))
  · -- case 2
    refine wq_l 47 d6_46 rfl rfl rfl rfl ?_
    refine wq_gi (ci := 0) (j := 9) 50 d6_47 rfl rfl rfl rfl ?_
    refine wq_ri d6_50 (rfl) ?_
    first | exact h0 e1 | exact h1 e1 | exact h2 e1 | exact h3 e1 | exact h4 e1 | exact h5 (e1 (0, 36) (by decide)) (e1 (1, 41) (by decide)) (e1 (2, 46) (by decide)) (e1 (3, 51) (by decide)) (e1 (4, 56) (by decide))
  · -- case 3
    refine wq_l 52 d6_51 rfl rfl rfl rfl ?_
    refine wq_gi (ci := 0) (j := 10) 55 d6_52 rfl rfl rfl rfl ?_
    refine wq_ri d6_55 (rfl) ?_
    first | exact h0 e1 | exact h1 e1 | exact h2 e1 | exact h3 e1 | exact h4 e1 | exact h5 (e1 (0, 36) (by decide)) (e1 (1, 41) (by decide)) (e1 (2, 46) (by decide)) (e1 (3, 51) (by decide)) (e1 (4, 56) (by decide))
  · -- case 4
    refine wq_l 57 d6_56 rfl rfl rfl rfl ?_
    refine wq_gi (ci := 0) (j := 11) 60 d6_57 rfl rfl rfl rfl ?_
    refine wq_ri d6_60 (rfl) ?_
    first | exact h0 e1 | exact h1 e1 | exact h2 e1 | exact h3 e1 | exact h4 e1 | exact h5 (e1 (0, 36) (by decide)) (e1 (1, 41) (by decide)) (e1 (2, 46) (by decide)) (e1 (3, 51) (by decide)) (e1 (4, 56) (by decide))
  · -- default
    refine wq_k 62 (-1) d6_61 (by decide) rfl ?_
    refine wq_ri d6_62 (rfl) ?_
    first | exact h0 e1 | exact h1 e1 | exact h2 e1 | exact h3 e1 | exact h4 e1 | exact h5 (e1 (0, 36) (by decide)) (e1 (1, 41) (by decide)) (e1 (2, 46) (by decide)) (e1 (3, 51) (by decide)) (e1 (4, 56) (by decide))
