/-! THE CLASS'S VARIABLES: methods -/
theorem nI_cl (x : Int32) (h : 0 ≤ x.toInt) : nI x.toNatClampNeg = x := by
  rw [i_eq, nI_toInt (by have := x.toInt_lt; unfold Int32.toNatClampNeg; omega)]
  unfold Int32.toNatClampNeg
  omega
theorem cl_i (x : Int32) (h : 0 ≤ x.toInt) : (x.toNatClampNeg : Int) = x.toInt := by
  unfold Int32.toNatClampNeg
  omega
theorem cv_c {NN : Nat} {F : List (Nat × rl_V)} {σ : pm_S} (hI : cv_I NN F σ) : σ.1 6 8 ≤ 4128 := by
  rw [hI.2.1, i_le, nI_toInt (by have := hI.1; omega)]
  have := hI.1
  show (F.length : Int) ≤ 4128
  omega
theorem cv_in {NN : Nat} {F : List (Nat × rl_V)} {σ : pm_S} (hI : cv_I NN F σ) {i : Nat} (hi : i < F.length) : (nI i).toNatClampNeg = i ∧ (0 : Int32) ≤ nI i ∧ nI i < σ.1 6 8 := by
  have := hI.1
  refine ⟨nI_clamp (by omega), ?_, ?_⟩
  · rw [i_le, nI_toInt (by omega)]; show (0 : Int) ≤ _; omega
  · rw [hI.2.1, i_lt, nI_toInt (by omega), nI_toInt (by omega)]; omega
theorem cv_lt {F : List (Nat × rl_V)} {i : Nat} {y : Nat × rl_V} (h : F[i]? = some y) : i < F.length := by
  rcases Nat.lt_or_ge i F.length with q | q
  · exact q
  · rw [List.getElem?_eq_none q] at h; cases h
theorem d135_0 : decode prog_11_method_9_code 0 = .ok (.iload_n 1, 1) := by decide +kernel
theorem d135_1 : decode prog_11_method_9_code 1 = .ok (.ifCond .lt 20, 3) := by decide +kernel
theorem d135_4 : decode prog_11_method_9_code 4 = .ok (.iload_n 1, 1) := by decide +kernel
theorem d135_5 : decode prog_11_method_9_code 5 = .ok (.aload_n 0, 1) := by decide +kernel
theorem d135_6 : decode prog_11_method_9_code 6 = .ok (.getfield 39, 3) := by decide +kernel
theorem d135_9 : decode prog_11_method_9_code 9 = .ok (.if_icmp .ge 12, 3) := by decide +kernel
theorem d135_12 : decode prog_11_method_9_code 12 = .ok (.aload_n 0, 1) := by decide +kernel
theorem d135_13 : decode prog_11_method_9_code 13 = .ok (.getfield 26, 3) := by decide +kernel
theorem d135_16 : decode prog_11_method_9_code 16 = .ok (.iload_n 1, 1) := by decide +kernel
theorem d135_17 : decode prog_11_method_9_code 17 = .ok (.iaload, 1) := by decide +kernel
theorem d135_18 : decode prog_11_method_9_code 18 = .ok (.goto 4, 3) := by decide +kernel
theorem d135_21 : decode prog_11_method_9_code 21 = .ok (.iconst (-1), 1) := by decide +kernel
theorem d135_22 : decode prog_11_method_9_code 22 = .ok (.ireturn, 1) := by decide +kernel
theorem m135 : pm_m 135 = some (⟨"TypeRules$Variables", "shapeOf", "(I)I"⟩, prog_11_method_9_code, 2, (some FieldType.int), 6, 1, 7) := rfl
theorem sp135 {d : Nat} {σ : pm_S} {Q : Option Value → pm_S → Prop} {x : Int32} (hc : σ.1 6 8 ≤ 4128) (h1 : 0 ≤ x → x < σ.1 6 8 → Q (some (.int (σ.2.2 38 x.toNatClampNeg))) σ) (h2 : ¬ (0 ≤ x ∧ x < σ.1 6 8) → Q (some (.int (-1))) σ) : pm_call pm_Y0 (d + 1) 135 [.ref 6, .int x] σ Q := by
  refine wq_m m135 (Nat.le_of_ble_eq_true rfl) (by decide) rfl ?_
  refine wq_l 1 d135_0 rfl rfl rfl rfl ?_
  refine wq_b 21 4 d135_1 rfl (by decide) rfl (fun c1 => ?_) (fun c1 => ?_)
  · -- pc 21
    refine wq_k 22 (-1) d135_21 (by decide) rfl ?_
    refine wq_ri d135_22 (rfl) ?_
    first | exact h1 (Int32.not_lt.mp (by assumption)) (Int32.not_le.mp (by assumption)) | exact h2 (fun q => absurd q.1 (Int32.not_le.mpr (by assumption))) | exact h2 (fun q => absurd q.2 (Int32.not_lt.mpr (by assumption)))
  · -- pc 4
    refine wq_l 5 d135_4 rfl rfl rfl rfl ?_
    refine wq_l 6 d135_5 rfl rfl rfl rfl ?_
    refine wq_gi (ci := 6) (j := 8) 9 d135_6 rfl rfl rfl rfl ?_
    refine wq_b 21 12 d135_9 rfl (by decide) rfl (fun c9 => ?_) (fun c9 => ?_)
    · -- pc 21
      refine wq_k 22 (-1) d135_21 (by decide) rfl ?_
      refine wq_ri d135_22 (rfl) ?_
      first | exact h1 (Int32.not_lt.mp (by assumption)) (Int32.not_le.mp (by assumption)) | exact h2 (fun q => absurd q.1 (Int32.not_le.mpr (by assumption))) | exact h2 (fun q => absurd q.2 (Int32.not_lt.mpr (by assumption)))
    · -- pc 12
      refine wq_l 13 d135_12 rfl rfl rfl rfl ?_
      refine wq_gr (ci := 6) (j := 4) (q := 38) 16 d135_13 rfl rfl rfl rfl ?_
      refine wq_l 17 d135_16 rfl rfl rfl rfl ?_
      refine wq_al 18 d135_17 rfl rfl rfl (vp_in_lt (Int32.not_lt.mp c1) (Int32.not_le.mp c9) hc (by decide)) ?_
      refine wq_g 22 d135_18 (by decide) ?_
      refine wq_ri d135_22 (rfl) ?_
      first | exact h1 (Int32.not_lt.mp (by assumption)) (Int32.not_le.mp (by assumption)) | exact h2 (fun q => absurd q.1 (Int32.not_le.mpr (by assumption))) | exact h2 (fun q => absurd q.2 (Int32.not_lt.mpr (by assumption)))
theorem cf135 {d : Nat} {σ : pm_S} {Q : Option Value → pm_S → Prop} {NN : Nat} {F : List (Nat × rl_V)} {i o : Nat} {v : rl_V} (hI : cv_I NN F σ) (hv : F[i]? = some (o, v)) (h3 : v.2.1 ≠ 3) (hQ : Q (some (.int (nI (8 + v.2.1)))) σ) : pm_call pm_Y0 (d + 1) 135 [.ref 6, .int (nI i)] σ Q := by
  obtain ⟨e1, e2, e3⟩ := cv_in hI (cv_lt hv)
  refine sp135 (cv_c hI) (fun _ _ => ?_) (fun q => absurd ⟨e2, e3⟩ q)
  rw [e1, ((hI.2.2.1 i o v hv).2.1.2.2.2 h3).1]
  exact hQ
theorem cf135n {d : Nat} {σ : pm_S} {Q : Option Value → pm_S → Prop} {NN : Nat} {F : List (Nat × rl_V)} (hI : cv_I NN F σ) (hQ : Q (some (.int (-1))) σ) : pm_call pm_Y0 (d + 1) 135 [.ref 6, .int (-1)] σ Q := sp135 (cv_c hI) (fun q _ => absurd q (by decide)) (fun _ => hQ)
theorem d136_0 : decode prog_11_method_10_code 0 = .ok (.iload_n 1, 1) := by decide +kernel
theorem d136_1 : decode prog_11_method_10_code 1 = .ok (.ifCond .lt 20, 3) := by decide +kernel
theorem d136_4 : decode prog_11_method_10_code 4 = .ok (.iload_n 1, 1) := by decide +kernel
theorem d136_5 : decode prog_11_method_10_code 5 = .ok (.aload_n 0, 1) := by decide +kernel
theorem d136_6 : decode prog_11_method_10_code 6 = .ok (.getfield 39, 3) := by decide +kernel
theorem d136_9 : decode prog_11_method_10_code 9 = .ok (.if_icmp .ge 12, 3) := by decide +kernel
theorem d136_12 : decode prog_11_method_10_code 12 = .ok (.aload_n 0, 1) := by decide +kernel
theorem d136_13 : decode prog_11_method_10_code 13 = .ok (.getfield 29, 3) := by decide +kernel
theorem d136_16 : decode prog_11_method_10_code 16 = .ok (.iload_n 1, 1) := by decide +kernel
theorem d136_17 : decode prog_11_method_10_code 17 = .ok (.iaload, 1) := by decide +kernel
theorem d136_18 : decode prog_11_method_10_code 18 = .ok (.goto 4, 3) := by decide +kernel
theorem d136_21 : decode prog_11_method_10_code 21 = .ok (.iconst (-1), 1) := by decide +kernel
theorem d136_22 : decode prog_11_method_10_code 22 = .ok (.ireturn, 1) := by decide +kernel
theorem m136 : pm_m 136 = some (⟨"TypeRules$Variables", "typeOf", "(I)I"⟩, prog_11_method_10_code, 2, (some FieldType.int), 6, 1, 7) := rfl
theorem sp136 {d : Nat} {σ : pm_S} {Q : Option Value → pm_S → Prop} {x : Int32} (hc : σ.1 6 8 ≤ 4128) (h1 : 0 ≤ x → x < σ.1 6 8 → Q (some (.int (σ.2.2 39 x.toNatClampNeg))) σ) (h2 : ¬ (0 ≤ x ∧ x < σ.1 6 8) → Q (some (.int (-1))) σ) : pm_call pm_Y0 (d + 1) 136 [.ref 6, .int x] σ Q := by
  refine wq_m m136 (Nat.le_of_ble_eq_true rfl) (by decide) rfl ?_
  refine wq_l 1 d136_0 rfl rfl rfl rfl ?_
  refine wq_b 21 4 d136_1 rfl (by decide) rfl (fun c1 => ?_) (fun c1 => ?_)
  · -- pc 21
    refine wq_k 22 (-1) d136_21 (by decide) rfl ?_
    refine wq_ri d136_22 (rfl) ?_
    first | exact h1 (Int32.not_lt.mp (by assumption)) (Int32.not_le.mp (by assumption)) | exact h2 (fun q => absurd q.1 (Int32.not_le.mpr (by assumption))) | exact h2 (fun q => absurd q.2 (Int32.not_lt.mpr (by assumption)))
  · -- pc 4
    refine wq_l 5 d136_4 rfl rfl rfl rfl ?_
    refine wq_l 6 d136_5 rfl rfl rfl rfl ?_
    refine wq_gi (ci := 6) (j := 8) 9 d136_6 rfl rfl rfl rfl ?_
    refine wq_b 21 12 d136_9 rfl (by decide) rfl (fun c9 => ?_) (fun c9 => ?_)
    · -- pc 21
      refine wq_k 22 (-1) d136_21 (by decide) rfl ?_
      refine wq_ri d136_22 (rfl) ?_
      first | exact h1 (Int32.not_lt.mp (by assumption)) (Int32.not_le.mp (by assumption)) | exact h2 (fun q => absurd q.1 (Int32.not_le.mpr (by assumption))) | exact h2 (fun q => absurd q.2 (Int32.not_lt.mpr (by assumption)))
    · -- pc 12
      refine wq_l 13 d136_12 rfl rfl rfl rfl ?_
      refine wq_gr (ci := 6) (j := 5) (q := 39) 16 d136_13 rfl rfl rfl rfl ?_
      refine wq_l 17 d136_16 rfl rfl rfl rfl ?_
      refine wq_al 18 d136_17 rfl rfl rfl (vp_in_lt (Int32.not_lt.mp c1) (Int32.not_le.mp c9) hc (by decide)) ?_
      refine wq_g 22 d136_18 (by decide) ?_
      refine wq_ri d136_22 (rfl) ?_
      first | exact h1 (Int32.not_lt.mp (by assumption)) (Int32.not_le.mp (by assumption)) | exact h2 (fun q => absurd q.1 (Int32.not_le.mpr (by assumption))) | exact h2 (fun q => absurd q.2 (Int32.not_lt.mpr (by assumption)))
theorem cf136 {d : Nat} {σ : pm_S} {Q : Option Value → pm_S → Prop} {NN : Nat} {F : List (Nat × rl_V)} {i o : Nat} {v : rl_V} (hI : cv_I NN F σ) (hv : F[i]? = some (o, v)) (h3 : v.2.1 ≠ 3) (hQ : Q (some (.int (v.2.2.1))) σ) : pm_call pm_Y0 (d + 1) 136 [.ref 6, .int (nI i)] σ Q := by
  obtain ⟨e1, e2, e3⟩ := cv_in hI (cv_lt hv)
  refine sp136 (cv_c hI) (fun _ _ => ?_) (fun q => absurd ⟨e2, e3⟩ q)
  rw [e1, ((hI.2.2.1 i o v hv).2.1.2.2.2 h3).2.1]
  exact hQ
theorem cf136n {d : Nat} {σ : pm_S} {Q : Option Value → pm_S → Prop} {NN : Nat} {F : List (Nat × rl_V)} (hI : cv_I NN F σ) (hQ : Q (some (.int (-1))) σ) : pm_call pm_Y0 (d + 1) 136 [.ref 6, .int (-1)] σ Q := sp136 (cv_c hI) (fun q _ => absurd q (by decide)) (fun _ => hQ)
theorem d137_0 : decode prog_11_method_11_code 0 = .ok (.iload_n 1, 1) := by decide +kernel
theorem d137_1 : decode prog_11_method_11_code 1 = .ok (.ifCond .lt 20, 3) := by decide +kernel
theorem d137_4 : decode prog_11_method_11_code 4 = .ok (.iload_n 1, 1) := by decide +kernel
theorem d137_5 : decode prog_11_method_11_code 5 = .ok (.aload_n 0, 1) := by decide +kernel
theorem d137_6 : decode prog_11_method_11_code 6 = .ok (.getfield 39, 3) := by decide +kernel
theorem d137_9 : decode prog_11_method_11_code 9 = .ok (.if_icmp .ge 12, 3) := by decide +kernel
theorem d137_12 : decode prog_11_method_11_code 12 = .ok (.aload_n 0, 1) := by decide +kernel
theorem d137_13 : decode prog_11_method_11_code 13 = .ok (.getfield 32, 3) := by decide +kernel
theorem d137_16 : decode prog_11_method_11_code 16 = .ok (.iload_n 1, 1) := by decide +kernel
theorem d137_17 : decode prog_11_method_11_code 17 = .ok (.iaload, 1) := by decide +kernel
theorem d137_18 : decode prog_11_method_11_code 18 = .ok (.goto 4, 3) := by decide +kernel
theorem d137_21 : decode prog_11_method_11_code 21 = .ok (.iconst (-1), 1) := by decide +kernel
theorem d137_22 : decode prog_11_method_11_code 22 = .ok (.ireturn, 1) := by decide +kernel
theorem m137 : pm_m 137 = some (⟨"TypeRules$Variables", "cellOf", "(I)I"⟩, prog_11_method_11_code, 2, (some FieldType.int), 6, 1, 7) := rfl
theorem sp137 {d : Nat} {σ : pm_S} {Q : Option Value → pm_S → Prop} {x : Int32} (hc : σ.1 6 8 ≤ 4128) (h1 : 0 ≤ x → x < σ.1 6 8 → Q (some (.int (σ.2.2 40 x.toNatClampNeg))) σ) (h2 : ¬ (0 ≤ x ∧ x < σ.1 6 8) → Q (some (.int (-1))) σ) : pm_call pm_Y0 (d + 1) 137 [.ref 6, .int x] σ Q := by
  refine wq_m m137 (Nat.le_of_ble_eq_true rfl) (by decide) rfl ?_
  refine wq_l 1 d137_0 rfl rfl rfl rfl ?_
  refine wq_b 21 4 d137_1 rfl (by decide) rfl (fun c1 => ?_) (fun c1 => ?_)
  · -- pc 21
    refine wq_k 22 (-1) d137_21 (by decide) rfl ?_
    refine wq_ri d137_22 (rfl) ?_
    first | exact h1 (Int32.not_lt.mp (by assumption)) (Int32.not_le.mp (by assumption)) | exact h2 (fun q => absurd q.1 (Int32.not_le.mpr (by assumption))) | exact h2 (fun q => absurd q.2 (Int32.not_lt.mpr (by assumption)))
  · -- pc 4
    refine wq_l 5 d137_4 rfl rfl rfl rfl ?_
    refine wq_l 6 d137_5 rfl rfl rfl rfl ?_
    refine wq_gi (ci := 6) (j := 8) 9 d137_6 rfl rfl rfl rfl ?_
    refine wq_b 21 12 d137_9 rfl (by decide) rfl (fun c9 => ?_) (fun c9 => ?_)
    · -- pc 21
      refine wq_k 22 (-1) d137_21 (by decide) rfl ?_
      refine wq_ri d137_22 (rfl) ?_
      first | exact h1 (Int32.not_lt.mp (by assumption)) (Int32.not_le.mp (by assumption)) | exact h2 (fun q => absurd q.1 (Int32.not_le.mpr (by assumption))) | exact h2 (fun q => absurd q.2 (Int32.not_lt.mpr (by assumption)))
    · -- pc 12
      refine wq_l 13 d137_12 rfl rfl rfl rfl ?_
      refine wq_gr (ci := 6) (j := 6) (q := 40) 16 d137_13 rfl rfl rfl rfl ?_
      refine wq_l 17 d137_16 rfl rfl rfl rfl ?_
      refine wq_al 18 d137_17 rfl rfl rfl (vp_in_lt (Int32.not_lt.mp c1) (Int32.not_le.mp c9) hc (by decide)) ?_
      refine wq_g 22 d137_18 (by decide) ?_
      refine wq_ri d137_22 (rfl) ?_
      first | exact h1 (Int32.not_lt.mp (by assumption)) (Int32.not_le.mp (by assumption)) | exact h2 (fun q => absurd q.1 (Int32.not_le.mpr (by assumption))) | exact h2 (fun q => absurd q.2 (Int32.not_lt.mpr (by assumption)))
theorem cf137 {d : Nat} {σ : pm_S} {Q : Option Value → pm_S → Prop} {NN : Nat} {F : List (Nat × rl_V)} {i o : Nat} {v : rl_V} (hI : cv_I NN F σ) (hv : F[i]? = some (o, v)) (h3 : v.2.1 ≠ 3) (hQ : Q (some (.int (nI v.2.2.2.2.2))) σ) : pm_call pm_Y0 (d + 1) 137 [.ref 6, .int (nI i)] σ Q := by
  obtain ⟨e1, e2, e3⟩ := cv_in hI (cv_lt hv)
  refine sp137 (cv_c hI) (fun _ _ => ?_) (fun q => absurd ⟨e2, e3⟩ q)
  rw [e1, ((hI.2.2.1 i o v hv).2.1.2.2.2 h3).2.2]
  exact hQ
theorem cf137n {d : Nat} {σ : pm_S} {Q : Option Value → pm_S → Prop} {NN : Nat} {F : List (Nat × rl_V)} (hI : cv_I NN F σ) (hQ : Q (some (.int (-1))) σ) : pm_call pm_Y0 (d + 1) 137 [.ref 6, .int (-1)] σ Q := sp137 (cv_c hI) (fun q _ => absurd q (by decide)) (fun _ => hQ)
theorem d132_0 : decode prog_11_method_3_code 0 = .ok (.aload_n 0, 1) := by decide +kernel
theorem d132_1 : decode prog_11_method_3_code 1 = .ok (.getfield 39, 3) := by decide +kernel
theorem d132_4 : decode prog_11_method_3_code 4 = .ok (.ireturn, 1) := by decide +kernel
theorem m132 : pm_m 132 = some (⟨"TypeRules$Variables", "size", "()I"⟩, prog_11_method_3_code, 1, (some FieldType.int), 6, 0, 7) := rfl
theorem d139_0 : decode prog_11_method_12_code 0 = .ok (.iload_n 1, 1) := by decide +kernel
theorem d139_1 : decode prog_11_method_12_code 1 = .ok (.ifCond .lt 24, 3) := by decide +kernel
theorem d139_4 : decode prog_11_method_12_code 4 = .ok (.iload_n 1, 1) := by decide +kernel
theorem d139_5 : decode prog_11_method_12_code 5 = .ok (.aload_n 0, 1) := by decide +kernel
theorem d139_6 : decode prog_11_method_12_code 6 = .ok (.getfield 39, 3) := by decide +kernel
theorem d139_9 : decode prog_11_method_12_code 9 = .ok (.if_icmp .ge 16, 3) := by decide +kernel
theorem d139_12 : decode prog_11_method_12_code 12 = .ok (.aload_n 0, 1) := by decide +kernel
theorem d139_13 : decode prog_11_method_12_code 13 = .ok (.getfield 35, 3) := by decide +kernel
theorem d139_16 : decode prog_11_method_12_code 16 = .ok (.iload_n 1, 1) := by decide +kernel
theorem d139_17 : decode prog_11_method_12_code 17 = .ok (.baload, 1) := by decide +kernel
theorem d139_18 : decode prog_11_method_12_code 18 = .ok (.ifCond .eq 7, 3) := by decide +kernel
theorem d139_21 : decode prog_11_method_12_code 21 = .ok (.iconst 1, 1) := by decide +kernel
theorem d139_22 : decode prog_11_method_12_code 22 = .ok (.goto 4, 3) := by decide +kernel
theorem d139_25 : decode prog_11_method_12_code 25 = .ok (.iconst 0, 1) := by decide +kernel
theorem d139_26 : decode prog_11_method_12_code 26 = .ok (.ireturn, 1) := by decide +kernel
theorem m139 : pm_m 139 = some (⟨"TypeRules$Variables", "isReadOnly", "(I)Z"⟩, prog_11_method_12_code, 2, (some FieldType.boolean), 6, 1, 7) := rfl
theorem d134_0 : decode prog_11_method_7_code 0 = .ok (.iload_n 2, 1) := by decide +kernel
theorem d134_1 : decode prog_11_method_7_code 1 = .ok (.ifCond .lt 21, 3) := by decide +kernel
theorem d134_4 : decode prog_11_method_7_code 4 = .ok (.iload_n 2, 1) := by decide +kernel
theorem d134_5 : decode prog_11_method_7_code 5 = .ok (.aload_n 0, 1) := by decide +kernel
theorem d134_6 : decode prog_11_method_7_code 6 = .ok (.getfield 11, 3) := by decide +kernel
theorem d134_9 : decode prog_11_method_7_code 9 = .ok (.arraylength, 1) := by decide +kernel
theorem d134_10 : decode prog_11_method_7_code 10 = .ok (.if_icmp .ge 12, 3) := by decide +kernel
theorem d134_13 : decode prog_11_method_7_code 13 = .ok (.aload_n 0, 1) := by decide +kernel
theorem d134_14 : decode prog_11_method_7_code 14 = .ok (.getfield 11, 3) := by decide +kernel
theorem d134_17 : decode prog_11_method_7_code 17 = .ok (.iload_n 2, 1) := by decide +kernel
theorem d134_18 : decode prog_11_method_7_code 18 = .ok (.iaload, 1) := by decide +kernel
theorem d134_19 : decode prog_11_method_7_code 19 = .ok (.goto 4, 3) := by decide +kernel
theorem d134_22 : decode prog_11_method_7_code 22 = .ok (.iconst (-1), 1) := by decide +kernel
theorem d134_23 : decode prog_11_method_7_code 23 = .ok (.istore_n 3, 1) := by decide +kernel
theorem d134_24 : decode prog_11_method_7_code 24 = .ok (.aload_n 0, 1) := by decide +kernel
theorem d134_25 : decode prog_11_method_7_code 25 = .ok (.getfield 39, 3) := by decide +kernel
theorem d134_28 : decode prog_11_method_7_code 28 = .ok (.istore 4, 2) := by decide +kernel
theorem d134_30 : decode prog_11_method_7_code 30 = .ok (.iload 4, 2) := by decide +kernel
theorem d134_32 : decode prog_11_method_7_code 32 = .ok (.ifCond .le 40, 3) := by decide +kernel
theorem d134_35 : decode prog_11_method_7_code 35 = .ok (.iload_n 3, 1) := by decide +kernel
theorem d134_36 : decode prog_11_method_7_code 36 = .ok (.ifCond .lt 36, 3) := by decide +kernel
theorem d134_39 : decode prog_11_method_7_code 39 = .ok (.iload_n 3, 1) := by decide +kernel
theorem d134_40 : decode prog_11_method_7_code 40 = .ok (.aload_n 0, 1) := by decide +kernel
theorem d134_41 : decode prog_11_method_7_code 41 = .ok (.getfield 39, 3) := by decide +kernel
theorem d134_44 : decode prog_11_method_7_code 44 = .ok (.if_icmp .ge 28, 3) := by decide +kernel
theorem d134_47 : decode prog_11_method_7_code 47 = .ok (.aload_n 0, 1) := by decide +kernel
theorem d134_48 : decode prog_11_method_7_code 48 = .ok (.getfield 20, 3) := by decide +kernel
theorem d134_51 : decode prog_11_method_7_code 51 = .ok (.iload_n 3, 1) := by decide +kernel
theorem d134_52 : decode prog_11_method_7_code 52 = .ok (.iaload, 1) := by decide +kernel
theorem d134_53 : decode prog_11_method_7_code 53 = .ok (.iload_n 1, 1) := by decide +kernel
theorem d134_54 : decode prog_11_method_7_code 54 = .ok (.if_icmp .ne 5, 3) := by decide +kernel
theorem d134_57 : decode prog_11_method_7_code 57 = .ok (.iload_n 3, 1) := by decide +kernel
theorem d134_58 : decode prog_11_method_7_code 58 = .ok (.ireturn, 1) := by decide +kernel
theorem d134_59 : decode prog_11_method_7_code 59 = .ok (.aload_n 0, 1) := by decide +kernel
theorem d134_60 : decode prog_11_method_7_code 60 = .ok (.getfield 17, 3) := by decide +kernel
theorem d134_63 : decode prog_11_method_7_code 63 = .ok (.iload_n 3, 1) := by decide +kernel
theorem d134_64 : decode prog_11_method_7_code 64 = .ok (.iaload, 1) := by decide +kernel
theorem d134_65 : decode prog_11_method_7_code 65 = .ok (.istore_n 3, 1) := by decide +kernel
theorem d134_66 : decode prog_11_method_7_code 66 = .ok (.iinc 4 (-1), 3) := by decide +kernel
theorem d134_69 : decode prog_11_method_7_code 69 = .ok (.goto (-39), 3) := by decide +kernel
theorem d134_72 : decode prog_11_method_7_code 72 = .ok (.iconst (-1), 1) := by decide +kernel
theorem d134_73 : decode prog_11_method_7_code 73 = .ok (.ireturn, 1) := by decide +kernel
theorem m134 : pm_m 134 = some (⟨"TypeRules$Variables", "find", "(II)I"⟩, prog_11_method_7_code, 5, (some FieldType.int), 6, 2, 7) := rfl
theorem d138_0 : decode prog_11_method_8_code 0 = .ok (.aload_n 0, 1) := by decide +kernel
theorem d138_1 : decode prog_11_method_8_code 1 = .ok (.iload_n 1, 1) := by decide +kernel
theorem d138_2 : decode prog_11_method_8_code 2 = .ok (.iload_n 2, 1) := by decide +kernel
theorem d138_3 : decode prog_11_method_8_code 3 = .ok (.invokevirtual 56, 3) := by decide +kernel
theorem d138_6 : decode prog_11_method_8_code 6 = .ok (.istore 4, 2) := by decide +kernel
theorem d138_8 : decode prog_11_method_8_code 8 = .ok (.iload 4, 2) := by decide +kernel
theorem d138_10 : decode prog_11_method_8_code 10 = .ok (.ifCond .lt 28, 3) := by decide +kernel
theorem d138_13 : decode prog_11_method_8_code 13 = .ok (.iload 4, 2) := by decide +kernel
theorem d138_15 : decode prog_11_method_8_code 15 = .ok (.aload_n 0, 1) := by decide +kernel
theorem d138_16 : decode prog_11_method_8_code 16 = .ok (.getfield 39, 3) := by decide +kernel
theorem d138_19 : decode prog_11_method_8_code 19 = .ok (.if_icmp .ge 19, 3) := by decide +kernel
theorem d138_22 : decode prog_11_method_8_code 22 = .ok (.aload_n 0, 1) := by decide +kernel
theorem d138_23 : decode prog_11_method_8_code 23 = .ok (.getfield 23, 3) := by decide +kernel
theorem d138_26 : decode prog_11_method_8_code 26 = .ok (.iload 4, 2) := by decide +kernel
theorem d138_28 : decode prog_11_method_8_code 28 = .ok (.iaload, 1) := by decide +kernel
theorem d138_29 : decode prog_11_method_8_code 29 = .ok (.iload_n 3, 1) := by decide +kernel
theorem d138_30 : decode prog_11_method_8_code 30 = .ok (.if_icmp .ne 8, 3) := by decide +kernel
theorem d138_33 : decode prog_11_method_8_code 33 = .ok (.iload 4, 2) := by decide +kernel
theorem d138_35 : decode prog_11_method_8_code 35 = .ok (.goto 4, 3) := by decide +kernel
theorem d138_38 : decode prog_11_method_8_code 38 = .ok (.iconst (-1), 1) := by decide +kernel
theorem d138_39 : decode prog_11_method_8_code 39 = .ok (.ireturn, 1) := by decide +kernel
theorem m138 : pm_m 138 = some (⟨"TypeRules$Variables", "findIn", "(III)I"⟩, prog_11_method_8_code, 5, (some FieldType.int), 6, 3, 7) := rfl
theorem d131_0 : decode prog_11_method_5_code 0 = .ok (.iload_n 1, 1) := by decide +kernel
theorem d131_1 : decode prog_11_method_5_code 1 = .ok (.ifCond .lt 32, 3) := by decide +kernel
theorem d131_4 : decode prog_11_method_5_code 4 = .ok (.iload_n 1, 1) := by decide +kernel
theorem d131_5 : decode prog_11_method_5_code 5 = .ok (.sipush 4128, 3) := by decide +kernel
theorem d131_8 : decode prog_11_method_5_code 8 = .ok (.if_icmp .ge 25, 3) := by decide +kernel
theorem d131_11 : decode prog_11_method_5_code 11 = .ok (.aload_n 0, 1) := by decide +kernel
theorem d131_12 : decode prog_11_method_5_code 12 = .ok (.getfield 26, 3) := by decide +kernel
theorem d131_15 : decode prog_11_method_5_code 15 = .ok (.iload_n 1, 1) := by decide +kernel
theorem d131_16 : decode prog_11_method_5_code 16 = .ok (.iload_n 2, 1) := by decide +kernel
theorem d131_17 : decode prog_11_method_5_code 17 = .ok (.iastore, 1) := by decide +kernel
theorem d131_18 : decode prog_11_method_5_code 18 = .ok (.aload_n 0, 1) := by decide +kernel
theorem d131_19 : decode prog_11_method_5_code 19 = .ok (.getfield 29, 3) := by decide +kernel
theorem d131_22 : decode prog_11_method_5_code 22 = .ok (.iload_n 1, 1) := by decide +kernel
theorem d131_23 : decode prog_11_method_5_code 23 = .ok (.iload_n 3, 1) := by decide +kernel
theorem d131_24 : decode prog_11_method_5_code 24 = .ok (.iastore, 1) := by decide +kernel
theorem d131_25 : decode prog_11_method_5_code 25 = .ok (.aload_n 0, 1) := by decide +kernel
theorem d131_26 : decode prog_11_method_5_code 26 = .ok (.getfield 32, 3) := by decide +kernel
theorem d131_29 : decode prog_11_method_5_code 29 = .ok (.iload_n 1, 1) := by decide +kernel
theorem d131_30 : decode prog_11_method_5_code 30 = .ok (.iload 4, 2) := by decide +kernel
theorem d131_32 : decode prog_11_method_5_code 32 = .ok (.iastore, 1) := by decide +kernel
theorem d131_33 : decode prog_11_method_5_code 33 = .ok (.return_, 1) := by decide +kernel
theorem m131 : pm_m 131 = some (⟨"TypeRules$Variables", "settle", "(IIII)V"⟩, prog_11_method_5_code, 5, none, 6, 4, 7) := rfl
theorem d133_0 : decode prog_11_method_6_code 0 = .ok (.iload_n 1, 1) := by decide +kernel
theorem d133_1 : decode prog_11_method_6_code 1 = .ok (.ifCond .lt 18, 3) := by decide +kernel
theorem d133_4 : decode prog_11_method_6_code 4 = .ok (.iload_n 1, 1) := by decide +kernel
theorem d133_5 : decode prog_11_method_6_code 5 = .ok (.aload_n 0, 1) := by decide +kernel
theorem d133_6 : decode prog_11_method_6_code 6 = .ok (.getfield 39, 3) := by decide +kernel
theorem d133_9 : decode prog_11_method_6_code 9 = .ok (.if_icmp .ge 10, 3) := by decide +kernel
theorem d133_12 : decode prog_11_method_6_code 12 = .ok (.aload_n 0, 1) := by decide +kernel
theorem d133_13 : decode prog_11_method_6_code 13 = .ok (.getfield 35, 3) := by decide +kernel
theorem d133_16 : decode prog_11_method_6_code 16 = .ok (.iload_n 1, 1) := by decide +kernel
theorem d133_17 : decode prog_11_method_6_code 17 = .ok (.iconst 1, 1) := by decide +kernel
theorem d133_18 : decode prog_11_method_6_code 18 = .ok (.bastore, 1) := by decide +kernel
theorem d133_19 : decode prog_11_method_6_code 19 = .ok (.return_, 1) := by decide +kernel
theorem m133 : pm_m 133 = some (⟨"TypeRules$Variables", "forbidWriting", "(I)V"⟩, prog_11_method_6_code, 2, none, 6, 1, 7) := rfl
theorem d130_0 : decode prog_11_method_4_code 0 = .ok (.aload_n 0, 1) := by decide +kernel
theorem d130_1 : decode prog_11_method_4_code 1 = .ok (.getfield 39, 3) := by decide +kernel
theorem d130_4 : decode prog_11_method_4_code 4 = .ok (.sipush 4128, 3) := by decide +kernel
theorem d130_7 : decode prog_11_method_4_code 7 = .ok (.if_icmp .ge 16, 3) := by decide +kernel
theorem d130_10 : decode prog_11_method_4_code 10 = .ok (.iload_n 2, 1) := by decide +kernel
theorem d130_11 : decode prog_11_method_4_code 11 = .ok (.ifCond .lt 12, 3) := by decide +kernel
theorem d130_14 : decode prog_11_method_4_code 14 = .ok (.iload_n 2, 1) := by decide +kernel
theorem d130_15 : decode prog_11_method_4_code 15 = .ok (.aload_n 0, 1) := by decide +kernel
theorem d130_16 : decode prog_11_method_4_code 16 = .ok (.getfield 11, 3) := by decide +kernel
theorem d130_19 : decode prog_11_method_4_code 19 = .ok (.arraylength, 1) := by decide +kernel
theorem d130_20 : decode prog_11_method_4_code 20 = .ok (.if_icmp .lt 5, 3) := by decide +kernel
theorem d130_23 : decode prog_11_method_4_code 23 = .ok (.iconst (-1), 1) := by decide +kernel
theorem d130_24 : decode prog_11_method_4_code 24 = .ok (.ireturn, 1) := by decide +kernel
theorem d130_25 : decode prog_11_method_4_code 25 = .ok (.aload_n 0, 1) := by decide +kernel
theorem d130_26 : decode prog_11_method_4_code 26 = .ok (.getfield 17, 3) := by decide +kernel
theorem d130_29 : decode prog_11_method_4_code 29 = .ok (.aload_n 0, 1) := by decide +kernel
theorem d130_30 : decode prog_11_method_4_code 30 = .ok (.getfield 39, 3) := by decide +kernel
theorem d130_33 : decode prog_11_method_4_code 33 = .ok (.aload_n 0, 1) := by decide +kernel
theorem d130_34 : decode prog_11_method_4_code 34 = .ok (.getfield 11, 3) := by decide +kernel
theorem d130_37 : decode prog_11_method_4_code 37 = .ok (.iload_n 2, 1) := by decide +kernel
theorem d130_38 : decode prog_11_method_4_code 38 = .ok (.iaload, 1) := by decide +kernel
theorem d130_39 : decode prog_11_method_4_code 39 = .ok (.iastore, 1) := by decide +kernel
theorem d130_40 : decode prog_11_method_4_code 40 = .ok (.aload_n 0, 1) := by decide +kernel
theorem d130_41 : decode prog_11_method_4_code 41 = .ok (.getfield 11, 3) := by decide +kernel
theorem d130_44 : decode prog_11_method_4_code 44 = .ok (.iload_n 2, 1) := by decide +kernel
theorem d130_45 : decode prog_11_method_4_code 45 = .ok (.aload_n 0, 1) := by decide +kernel
theorem d130_46 : decode prog_11_method_4_code 46 = .ok (.getfield 39, 3) := by decide +kernel
theorem d130_49 : decode prog_11_method_4_code 49 = .ok (.iastore, 1) := by decide +kernel
theorem d130_50 : decode prog_11_method_4_code 50 = .ok (.aload_n 0, 1) := by decide +kernel
theorem d130_51 : decode prog_11_method_4_code 51 = .ok (.getfield 20, 3) := by decide +kernel
theorem d130_54 : decode prog_11_method_4_code 54 = .ok (.aload_n 0, 1) := by decide +kernel
theorem d130_55 : decode prog_11_method_4_code 55 = .ok (.getfield 39, 3) := by decide +kernel
theorem d130_58 : decode prog_11_method_4_code 58 = .ok (.iload_n 1, 1) := by decide +kernel
theorem d130_59 : decode prog_11_method_4_code 59 = .ok (.iastore, 1) := by decide +kernel
theorem d130_60 : decode prog_11_method_4_code 60 = .ok (.aload_n 0, 1) := by decide +kernel
theorem d130_61 : decode prog_11_method_4_code 61 = .ok (.getfield 23, 3) := by decide +kernel
theorem d130_64 : decode prog_11_method_4_code 64 = .ok (.aload_n 0, 1) := by decide +kernel
theorem d130_65 : decode prog_11_method_4_code 65 = .ok (.getfield 39, 3) := by decide +kernel
theorem d130_68 : decode prog_11_method_4_code 68 = .ok (.iload_n 3, 1) := by decide +kernel
theorem d130_69 : decode prog_11_method_4_code 69 = .ok (.iastore, 1) := by decide +kernel
theorem d130_70 : decode prog_11_method_4_code 70 = .ok (.aload_n 0, 1) := by decide +kernel
theorem d130_71 : decode prog_11_method_4_code 71 = .ok (.getfield 35, 3) := by decide +kernel
theorem d130_74 : decode prog_11_method_4_code 74 = .ok (.aload_n 0, 1) := by decide +kernel
theorem d130_75 : decode prog_11_method_4_code 75 = .ok (.getfield 39, 3) := by decide +kernel
theorem d130_78 : decode prog_11_method_4_code 78 = .ok (.iload_n 3, 1) := by decide +kernel
theorem d130_79 : decode prog_11_method_4_code 79 = .ok (.iconst 1, 1) := by decide +kernel
theorem d130_80 : decode prog_11_method_4_code 80 = .ok (.if_icmp .ne 7, 3) := by decide +kernel
theorem d130_83 : decode prog_11_method_4_code 83 = .ok (.iconst 1, 1) := by decide +kernel
theorem d130_84 : decode prog_11_method_4_code 84 = .ok (.goto 4, 3) := by decide +kernel
theorem d130_87 : decode prog_11_method_4_code 87 = .ok (.iconst 0, 1) := by decide +kernel
theorem d130_88 : decode prog_11_method_4_code 88 = .ok (.bastore, 1) := by decide +kernel
theorem d130_89 : decode prog_11_method_4_code 89 = .ok (.aload_n 0, 1) := by decide +kernel
theorem d130_90 : decode prog_11_method_4_code 90 = .ok (.aload_n 0, 1) := by decide +kernel
theorem d130_91 : decode prog_11_method_4_code 91 = .ok (.getfield 39, 3) := by decide +kernel
theorem d130_94 : decode prog_11_method_4_code 94 = .ok (.bipush 8, 2) := by decide +kernel
theorem d130_96 : decode prog_11_method_4_code 96 = .ok (.iconst 0, 1) := by decide +kernel
theorem d130_97 : decode prog_11_method_4_code 97 = .ok (.iconst 0, 1) := by decide +kernel
theorem d130_98 : decode prog_11_method_4_code 98 = .ok (.invokevirtual 52, 3) := by decide +kernel
theorem d130_101 : decode prog_11_method_4_code 101 = .ok (.aload_n 0, 1) := by decide +kernel
theorem d130_102 : decode prog_11_method_4_code 102 = .ok (.dup, 1) := by decide +kernel
theorem d130_103 : decode prog_11_method_4_code 103 = .ok (.getfield 39, 3) := by decide +kernel
theorem d130_106 : decode prog_11_method_4_code 106 = .ok (.iconst 1, 1) := by decide +kernel
theorem d130_107 : decode prog_11_method_4_code 107 = .ok (.iadd, 1) := by decide +kernel
theorem d130_108 : decode prog_11_method_4_code 108 = .ok (.putfield 39, 3) := by decide +kernel
theorem d130_111 : decode prog_11_method_4_code 111 = .ok (.aload_n 0, 1) := by decide +kernel
theorem d130_112 : decode prog_11_method_4_code 112 = .ok (.getfield 39, 3) := by decide +kernel
theorem d130_115 : decode prog_11_method_4_code 115 = .ok (.iconst 1, 1) := by decide +kernel
theorem d130_116 : decode prog_11_method_4_code 116 = .ok (.isub, 1) := by decide +kernel
theorem d130_117 : decode prog_11_method_4_code 117 = .ok (.ireturn, 1) := by decide +kernel
theorem m130 : pm_m 130 = some (⟨"TypeRules$Variables", "declare", "(III)I"⟩, prog_11_method_4_code, 4, (some FieldType.int), 6, 3, 7) := rfl
theorem cf132 {d : Nat} {σ : pm_S} {Q : Option Value → pm_S → Prop} {NN : Nat} {F : List (Nat × rl_V)} (hI : cv_I NN F σ) (hQ : Q (some (.int (nI F.length))) σ) : pm_call pm_Y0 (d + 1) 132 [.ref 6] σ Q := by
  have e := hI.2.1
  refine wq_m m132 (Nat.le_of_ble_eq_true rfl) (by decide) rfl ?_
  refine wq_l 1 d132_0 rfl rfl rfl rfl ?_
  refine wq_gi (ci := 6) (j := 8) 4 d132_1 rfl rfl rfl rfl ?_
  refine wq_ri d132_4 (rfl) ?_
  rw [e]; exact hQ
theorem cf139 {d : Nat} {σ : pm_S} {Q : Option Value → pm_S → Prop} {NN : Nat} {F : List (Nat × rl_V)} {i o : Nat} {v : rl_V} (hI : cv_I NN F σ) (hv : F[i]? = some (o, v)) (hQ : Q (some (.int (b2 (rl_ro v)))) σ) : pm_call pm_Y0 (d + 1) 139 [.ref 6, .int (nI i)] σ Q := by
  obtain ⟨e1, e2, e3⟩ := cv_in hI (cv_lt hv)
  have e4 := (hI.2.2.1 i o v hv).2.1.2.2.1
  have hl := hI.1
  have hi := cv_lt hv
  have ei := nI_toInt (n := i) (by omega)
  refine wq_m m139 (Nat.le_of_ble_eq_true rfl) (by decide) rfl ?_
  refine wq_l 1 d139_0 rfl rfl rfl rfl ?_
  refine wq_b 25 4 d139_1 rfl (by decide) rfl (fun c1 => absurd c1 (Int32.not_lt.mpr e2)) (fun c1 => ?_)
  refine wq_l 5 d139_4 rfl rfl rfl rfl ?_
  refine wq_l 6 d139_5 rfl rfl rfl rfl ?_
  refine wq_gi (ci := 6) (j := 8) 9 d139_6 rfl rfl rfl rfl ?_
  refine wq_b 25 12 d139_9 rfl (by decide) rfl (fun c9 => absurd c9 (Int32.not_le.mpr e3)) (fun c9 => ?_)
  refine wq_l 13 d139_12 rfl rfl rfl rfl ?_
  refine wq_gr (ci := 6) (j := 7) (q := 41) 16 d139_13 rfl rfl rfl rfl ?_
  refine wq_l 17 d139_16 rfl rfl rfl rfl ?_
  refine wq_al 18 d139_17 rfl rfl rfl (vp_in_iff.mpr (by rw [ei]; omega)) ?_
  rw [e1, e4]
  refine wq_b 25 21 d139_18 rfl (by decide) rfl (fun c18 => ?_) (fun c18 => ?_)
  · -- pc 25
    refine wq_k 26 0 d139_25 (by decide) rfl ?_
    refine wq_ri d139_26 (rfl) ?_
    first | (rw [show rl_ro v = true from b2n c18] at hQ; exact hQ) | (rw [show rl_ro v = false from b2z c18] at hQ; exact hQ)
  · -- pc 21
    refine wq_k 22 1 d139_21 (by decide) rfl ?_
    refine wq_g 26 d139_22 (by decide) ?_
    refine wq_ri d139_26 (rfl) ?_
    first | (rw [show rl_ro v = true from b2n c18] at hQ; exact hQ) | (rw [show rl_ro v = false from b2z c18] at hQ; exact hQ)
theorem cf139n {d : Nat} {σ : pm_S} {Q : Option Value → pm_S → Prop} {NN : Nat} {F : List (Nat × rl_V)} (hI : cv_I NN F σ) (hQ : Q (some (.int 0)) σ) : pm_call pm_Y0 (d + 1) 139 [.ref 6, .int (-1)] σ Q := by
  refine wq_m m139 (Nat.le_of_ble_eq_true rfl) (by decide) rfl ?_
  refine wq_l 1 d139_0 rfl rfl rfl rfl ?_
  refine wq_b 25 4 d139_1 rfl (by decide) rfl (fun c1 => ?_) (fun c1 => absurd (by decide) c1)
  refine wq_k 26 0 d139_25 (by decide) rfl ?_
  refine wq_ri d139_26 (rfl) ?_
  exact hQ
theorem cf134l {d : Nat} {σ : pm_S} {Q : Option Value → pm_S → Prop} {NN : Nat} {F : List (Nat × rl_V)} {o : Nat} {x : Int32} (hI : cv_I NN F σ) (ho : o < 2 ^ 30) (hO : ∀ i, i < F.length → nI (F.getD i cv_z).1 = nI o → (F.getD i cv_z).1 = o) : ∀ (left k : Nat), k ≤ left → left ≤ F.length → Q (some (.int (hp_oi (cv_fi F o x k)))) σ → pm_WP pm_Y0 (pm_call pm_Y0 d) 6 prog_11_method_7_code (some FieldType.int) Q 30 [.ref 6, .int (nI o), .int x, .int (hp_oi (cv_ch F x k)), .int (nI left)] [] σ := by
  have hl := hI.1
  intro left
  induction left with
  | zero =>
    intro k hk _ hQ
    have : k = 0 := by omega
    subst this
    refine wq_l 32 d134_30 rfl rfl rfl rfl ?_
    refine wq_b 72 35 d134_32 rfl (by decide) rfl (fun c32 => ?_) (fun c32 => absurd (by decide) c32)
    refine wq_k 73 (-1) d134_72 (by decide) rfl ?_
    refine wq_ri d134_73 (rfl) ?_
    exact hQ
  | succ left ih =>
    intro k hk hkl hQ
    have el := nI_toInt (n := left + 1) (by omega)
    cases hc : cv_ch F x k with
    | none =>
      rw [cv_chn hc] at hQ
      refine wq_l 32 d134_30 rfl rfl rfl rfl ?_
      refine wq_b 72 35 d134_32 rfl (by decide) rfl (fun c32 => absurd c32 (by rw [i_le, el]; show ¬ (_ : Int) ≤ 0; omega)) (fun c32 => ?_)
      refine wq_l 36 d134_35 rfl rfl rfl rfl ?_
      refine wq_b 72 39 d134_36 rfl (by decide) rfl (fun c36 => ?_) (fun c36 => absurd (by decide) c36)
      refine wq_k 73 (-1) d134_72 (by decide) rfl ?_
      refine wq_ri d134_73 (rfl) ?_
      exact hQ
    | some i =>
      obtain ⟨c1, c2, c3⟩ := cv_chs hc
      rw [c3 o] at hQ
      have hil : i < F.length := by omega
      obtain ⟨a1, a2, a3⟩ := hI.2.2.1 i _ _ (cv_gi hil)
      have ei := nI_toInt (n := i) (by omega)
      have eL := nI_toInt (n := F.length) (by omega)
      have ec : (hp_oi (some i)).toNatClampNeg = i := nI_clamp (by omega)
      have ow : (F.getD i cv_z).1 < 2 ^ 30 ∨ True := Or.inr trivial
      refine wq_l 32 d134_30 rfl rfl rfl rfl ?_
      refine wq_b 72 35 d134_32 rfl (by decide) rfl (fun c32 => absurd c32 (by rw [i_le, el]; show ¬ (_ : Int) ≤ 0; omega)) (fun c32 => ?_)
      refine wq_l 36 d134_35 rfl rfl rfl rfl ?_
      refine wq_b 72 39 d134_36 rfl (by decide) rfl (fun c36 => absurd c36 (by rw [i_lt]; show ¬ (nI i).toInt < (0 : Int); rw [ei]; omega)) (fun c36 => ?_)
      refine wq_l 40 d134_39 rfl rfl rfl rfl ?_
      refine wq_l 41 d134_40 rfl rfl rfl rfl ?_
      refine wq_gi (ci := 6) (j := 8) 44 d134_41 rfl rfl rfl rfl ?_
      refine wq_b 72 47 d134_44 rfl (by decide) rfl (fun c44 => absurd c44 (by rw [hI.2.1, i_le]; show ¬ (nI F.length).toInt ≤ (nI i).toInt; rw [ei, eL]; omega)) (fun c44 => ?_)
      refine wq_l 48 d134_47 rfl rfl rfl rfl ?_
      refine wq_gr (ci := 6) (j := 2) (q := 36) 51 d134_48 rfl rfl rfl rfl ?_
      refine wq_l 52 d134_51 rfl rfl rfl rfl ?_
      refine wq_al 53 d134_52 rfl rfl rfl (vp_in_iff.mpr (by show 0 ≤ (nI i).toInt ∧ (nI i).toInt < _; rw [ei]; omega)) ?_
      rw [ec, a1]
      refine wq_l 54 d134_53 rfl rfl rfl rfl ?_
      refine wq_b 59 57 d134_54 rfl (by decide) rfl (fun c54 => ?_) (fun c54 => ?_)
      · -- pc 59
        refine wq_l 60 d134_59 rfl rfl rfl rfl ?_
        refine wq_gr (ci := 6) (j := 1) (q := 35) 63 d134_60 rfl rfl rfl rfl ?_
        refine wq_l 64 d134_63 rfl rfl rfl rfl ?_
        refine wq_al 65 d134_64 rfl rfl rfl (vp_in_iff.mpr (by show 0 ≤ (nI i).toInt ∧ (nI i).toInt < _; rw [ei]; omega)) ?_
        rw [ec, a3, c2]
        refine wq_s 66 d134_65 rfl rfl (Nat.le_of_ble_eq_true rfl) rfl rfl ?_
        refine wq_i 69 d134_66 rfl rfl rfl ?_
        refine wq_g 30 d134_69 (by decide) ?_
        rw [show nI (left + 1) + Int32.ofInt (-1) = nI left from nI_m1 left]
        rw [if_neg (fun z => c54 (congrArg nI z))] at hQ
        exact ih i (by omega) (by omega) hQ
      · -- pc 57
        refine wq_l 58 d134_57 rfl rfl rfl rfl ?_
        refine wq_ri d134_58 (rfl) ?_
        rw [if_pos (hO i hil (Classical.not_not.mp c54))] at hQ
        exact hQ
theorem cf134 {d : Nat} {σ : pm_S} {Q : Option Value → pm_S → Prop} {NN : Nat} {F : List (Nat × rl_V)} {o : Nat} {x : Int32} (hN : NN ≤ 4171) (hI : cv_I NN F σ) (ho : o < 2 ^ 30) (hx : 0 ≤ x.toInt ∧ x.toInt < NN) (hO : ∀ i, i < F.length → nI (F.getD i cv_z).1 = nI o → (F.getD i cv_z).1 = o) (hQ : Q (some (.int (hp_oi (cv_fi F o x F.length)))) σ) : pm_call pm_Y0 (d + 1) 134 [.ref 6, .int (nI o), .int x] σ Q := by
  have hn := hI.2.2.2 x.toNatClampNeg (by have := cl_i x hx.1; omega)
  rw [nI_cl x hx.1] at hn
  have ec := hI.2.1
  refine wq_m m134 (Nat.le_of_ble_eq_true rfl) (by decide) rfl ?_
  refine wq_l 1 d134_0 rfl rfl rfl rfl ?_
  refine wq_b 22 4 d134_1 rfl (by decide) rfl (fun c1 => absurd c1 (by rw [i_lt]; show ¬ _ < (0 : Int); omega)) (fun c1 => ?_)
  refine wq_l 5 d134_4 rfl rfl rfl rfl ?_
  refine wq_l 6 d134_5 rfl rfl rfl rfl ?_
  refine wq_gr (ci := 6) (j := 0) (q := 34) 9 d134_6 rfl rfl rfl rfl ?_
  refine wq_len 10 d134_9 rfl rfl rfl ?_
  refine wq_b 22 13 d134_10 rfl (by decide) rfl (fun c10 => absurd c10 (by rw [i_le]; show ¬ (4171 : Int) ≤ _; omega)) (fun c10 => ?_)
  refine wq_l 14 d134_13 rfl rfl rfl rfl ?_
  refine wq_gr (ci := 6) (j := 0) (q := 34) 17 d134_14 rfl rfl rfl rfl ?_
  refine wq_l 18 d134_17 rfl rfl rfl rfl ?_
  refine wq_al 19 d134_18 rfl rfl rfl (vp_in_iff.mpr (by omega)) ?_
  refine wq_g 23 d134_19 (by decide) ?_
  rw [hn]
  refine wq_s 24 d134_23 rfl rfl (Nat.le_of_ble_eq_true rfl) rfl rfl ?_
  refine wq_l 25 d134_24 rfl rfl rfl rfl ?_
  refine wq_gi (ci := 6) (j := 8) 28 d134_25 rfl rfl rfl rfl ?_
  refine wq_s 30 d134_28 rfl rfl (Nat.le_of_ble_eq_true rfl) rfl rfl ?_
  rw [ec]
  exact cf134l hI ho hO F.length F.length (Nat.le_refl _) (Nat.le_refl _) hQ
theorem cf138 {d : Nat} {σ : pm_S} {Q : Option Value → pm_S → Prop} {NN : Nat} {F : List (Nat × rl_V)} {o s : Nat} {x : Int32} (hN : NN ≤ 4171) (hI : cv_I NN F σ) (ho : o < 2 ^ 30) (hx : 0 ≤ x.toInt ∧ x.toInt < NN) (hO : ∀ i, i < F.length → nI (F.getD i cv_z).1 = nI o → (F.getD i cv_z).1 = o) (hs : s ≤ 2) (h1 : ∀ i v, cv_fi F o x F.length = some i → F[i]? = some (o, v) → v.2.2.2.1 = s → Q (some (.int (nI i))) σ) (h2 : (∀ i v, cv_fi F o x F.length = some i → F[i]? = some (o, v) → v.2.2.2.1 ≠ s) → Q (some (.int (-1))) σ) : pm_call pm_Y0 (d + 2) 138 [.ref 6, .int (nI o), .int x, .int (nI s)] σ Q := by
  have hl := hI.1
  have ec := hI.2.1
  cases hc : cv_fi F o x F.length with
  | none =>
    refine wq_m m138 (Nat.le_of_ble_eq_true rfl) (by decide) rfl ?_
    refine wq_l 1 d138_0 rfl rfl rfl rfl ?_
    refine wq_l 2 d138_1 rfl rfl rfl rfl ?_
    refine wq_l 3 d138_2 rfl rfl rfl rfl ?_
    refine wq_v 6 [_, _] d138_3 rfl rfl m134 rfl rfl (Nat.le_of_ble_eq_true rfl) rfl (cf134 hN hI ho hx hO ?_)
    rw [hc]
    refine wq_s 8 d138_6 rfl rfl (Nat.le_of_ble_eq_true rfl) rfl rfl ?_
    refine wq_l 10 d138_8 rfl rfl rfl rfl ?_
    refine wq_b 38 13 d138_10 rfl (by decide) rfl (fun c10 => ?_) (fun c10 => absurd (by decide) c10)
    refine wq_k 39 (-1) d138_38 (by decide) rfl ?_
    refine wq_ri d138_39 (rfl) ?_
    exact h2 (fun i v h => by rw [hc] at h; cases h)
  | some i =>
    obtain ⟨c1, c2, c3⟩ := cv_fis hc
    have hv := cv_gi c1
    rw [c2] at hv
    obtain ⟨a1, a2, a3⟩ := hI.2.2.1 i _ _ hv
    have ei := nI_toInt (n := i) (by omega)
    have eL := nI_toInt (n := F.length) (by omega)
    have ei2 : (hp_oi (some i)).toNatClampNeg = i := nI_clamp (by omega)
    have es := nI_toInt (n := s) (by omega)
    have ev := nI_toInt (n := (F.getD i cv_z).2.2.2.2.1) (by have := a2.1.1; omega)
    have a4 := a2.2.1
    refine wq_m m138 (Nat.le_of_ble_eq_true rfl) (by decide) rfl ?_
    refine wq_l 1 d138_0 rfl rfl rfl rfl ?_
    refine wq_l 2 d138_1 rfl rfl rfl rfl ?_
    refine wq_l 3 d138_2 rfl rfl rfl rfl ?_
    refine wq_v 6 [_, _] d138_3 rfl rfl m134 rfl rfl (Nat.le_of_ble_eq_true rfl) rfl (cf134 hN hI ho hx hO ?_)
    rw [hc]
    refine wq_s 8 d138_6 rfl rfl (Nat.le_of_ble_eq_true rfl) rfl rfl ?_
    refine wq_l 10 d138_8 rfl rfl rfl rfl ?_
    refine wq_b 38 13 d138_10 rfl (by decide) rfl (fun c10 => absurd c10 (by rw [i_lt]; show ¬ (nI i).toInt < (0 : Int); rw [ei]; omega)) (fun c10 => ?_)
    refine wq_l 15 d138_13 rfl rfl rfl rfl ?_
    refine wq_l 16 d138_15 rfl rfl rfl rfl ?_
    refine wq_gi (ci := 6) (j := 8) 19 d138_16 rfl rfl rfl rfl ?_
    refine wq_b 38 22 d138_19 rfl (by decide) rfl (fun c19 => absurd c19 (by rw [ec, i_le]; show ¬ (nI F.length).toInt ≤ (nI i).toInt; rw [ei, eL]; omega)) (fun c19 => ?_)
    refine wq_l 23 d138_22 rfl rfl rfl rfl ?_
    refine wq_gr (ci := 6) (j := 3) (q := 37) 26 d138_23 rfl rfl rfl rfl ?_
    refine wq_l 28 d138_26 rfl rfl rfl rfl ?_
    refine wq_al 29 d138_28 rfl rfl rfl (vp_in_iff.mpr (by show 0 ≤ (nI i).toInt ∧ (nI i).toInt < _; rw [ei]; omega)) ?_
    rw [ei2, a4]
    refine wq_l 30 d138_29 rfl rfl rfl rfl ?_
    refine wq_b 38 33 d138_30 rfl (by decide) rfl (fun c30 => ?_) (fun c30 => ?_)
    · -- pc 38
      refine wq_k 39 (-1) d138_38 (by decide) rfl ?_
      refine wq_ri d138_39 (rfl) ?_
      first | exact h1 i _ hc hv (hp_inj (by have := a2.1.1; omega) (by omega) (Classical.not_not.mp c30)) | exact h2 (fun j w hj hw => by rw [hc] at hj; cases hj; rw [hv] at hw; cases hw; exact fun z => c30 (congrArg nI z))
    · -- pc 33
      refine wq_l 35 d138_33 rfl rfl rfl rfl ?_
      refine wq_g 39 d138_35 (by decide) ?_
      refine wq_ri d138_39 (rfl) ?_
      first | exact h1 i _ hc hv (hp_inj (by have := a2.1.1; omega) (by omega) (Classical.not_not.mp c30)) | exact h2 (fun j w hj hw => by rw [hc] at hj; cases hj; rw [hv] at hw; cases hw; exact fun z => c30 (congrArg nI z))
theorem sp131 {d : Nat} {σ : pm_S} {Q : Option Value → pm_S → Prop} {i : Nat} {s t c : Int32} (hi : i < 4128) (hQ : Q none (pm_pr (pm_pr (pm_pr σ 38 (upd (σ.2.2 38) i s)) 39 (upd (σ.2.2 39) i t)) 40 (upd (σ.2.2 40) i c))) : pm_call pm_Y0 (d + 1) 131 [.ref 6, .int (nI i), .int s, .int t, .int c] σ Q := by
  have ei := nI_toInt (n := i) (by omega)
  have ec := nI_clamp (n := i) (by omega)
  refine wq_m m131 (Nat.le_of_ble_eq_true rfl) (by decide) rfl ?_
  refine wq_l 1 d131_0 rfl rfl rfl rfl ?_
  refine wq_b 33 4 d131_1 rfl (by decide) rfl (fun c1 => absurd c1 (by rw [i_lt, ei]; show ¬ (i : Int) < 0; omega)) (fun c1 => ?_)
  refine wq_l 5 d131_4 rfl rfl rfl rfl ?_
  refine wq_k 8 4128 d131_5 (by decide) rfl ?_
  refine wq_b 33 11 d131_8 rfl (by decide) rfl (fun c8 => absurd c8 (by rw [i_le, ei]; show ¬ (4128 : Int) ≤ i; omega)) (fun c8 => ?_)
  refine wq_l 12 d131_11 rfl rfl rfl rfl ?_
  refine wq_gr (ci := 6) (j := 4) (q := 38) 15 d131_12 rfl rfl rfl rfl ?_
  refine wq_l 16 d131_15 rfl rfl rfl rfl ?_
  refine wq_l 17 d131_16 rfl rfl rfl rfl ?_
  refine wq_as 18 d131_17 rfl rfl rfl (vp_in_iff.mpr (by rw [ei]; omega)) ?_
  rw [ec]
  refine wq_l 19 d131_18 rfl rfl rfl rfl ?_
  refine wq_gr (ci := 6) (j := 5) (q := 39) 22 d131_19 rfl rfl rfl rfl ?_
  refine wq_l 23 d131_22 rfl rfl rfl rfl ?_
  refine wq_l 24 d131_23 rfl rfl rfl rfl ?_
  refine wq_as 25 d131_24 rfl rfl rfl (vp_in_iff.mpr (by rw [ei]; omega)) ?_
  rw [ec]
  refine wq_l 26 d131_25 rfl rfl rfl rfl ?_
  refine wq_gr (ci := 6) (j := 6) (q := 40) 29 d131_26 rfl rfl rfl rfl ?_
  refine wq_l 30 d131_29 rfl rfl rfl rfl ?_
  refine wq_l 32 d131_30 rfl rfl rfl rfl ?_
  refine wq_as 33 d131_32 rfl rfl rfl (vp_in_iff.mpr (by rw [ei]; omega)) ?_
  rw [ec]
  refine wq_rv d131_33 ?_
  exact hQ
theorem sp133 {d : Nat} {σ : pm_S} {Q : Option Value → pm_S → Prop} {NN : Nat} {F : List (Nat × rl_V)} {i : Nat} (hI : cv_I NN F σ) (hi : i < F.length) (hQ : Q none (pm_pr σ 41 (upd (σ.2.2 41) i 1))) : pm_call pm_Y0 (d + 1) 133 [.ref 6, .int (nI i)] σ Q := by
  obtain ⟨e1, e2, e3⟩ := cv_in hI hi
  have hl := hI.1
  have ei := nI_toInt (n := i) (by omega)
  refine wq_m m133 (Nat.le_of_ble_eq_true rfl) (by decide) rfl ?_
  refine wq_l 1 d133_0 rfl rfl rfl rfl ?_
  refine wq_b 19 4 d133_1 rfl (by decide) rfl (fun c1 => absurd c1 (Int32.not_lt.mpr e2)) (fun c1 => ?_)
  refine wq_l 5 d133_4 rfl rfl rfl rfl ?_
  refine wq_l 6 d133_5 rfl rfl rfl rfl ?_
  refine wq_gi (ci := 6) (j := 8) 9 d133_6 rfl rfl rfl rfl ?_
  refine wq_b 19 12 d133_9 rfl (by decide) rfl (fun c9 => absurd c9 (Int32.not_le.mpr e3)) (fun c9 => ?_)
  refine wq_l 13 d133_12 rfl rfl rfl rfl ?_
  refine wq_gr (ci := 6) (j := 7) (q := 41) 16 d133_13 rfl rfl rfl rfl ?_
  refine wq_l 17 d133_16 rfl rfl rfl rfl ?_
  refine wq_k 18 1 d133_17 (by decide) rfl ?_
  refine wq_as 19 d133_18 rfl rfl rfl (vp_in_iff.mpr (by rw [ei]; omega)) ?_
  rw [e1]
  refine wq_rv d133_19 ?_
  exact hQ
