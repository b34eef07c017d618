theorem d112_0 : decode prog_2_method_4_code 0 = .ok (.aload_n 0, 1) := by decide +kernel
theorem d112_1 : decode prog_2_method_4_code 1 = .ok (.getfield 42, 3) := by decide +kernel
theorem d112_4 : decode prog_2_method_4_code 4 = .ok (.sipush 418, 3) := by decide +kernel
theorem d112_7 : decode prog_2_method_4_code 7 = .ok (.if_icmp .ge 16, 3) := by decide +kernel
theorem d112_10 : decode prog_2_method_4_code 10 = .ok (.iload_n 2, 1) := by decide +kernel
theorem d112_11 : decode prog_2_method_4_code 11 = .ok (.ifCond .lt 12, 3) := by decide +kernel
theorem d112_14 : decode prog_2_method_4_code 14 = .ok (.iload_n 2, 1) := by decide +kernel
theorem d112_15 : decode prog_2_method_4_code 15 = .ok (.aload_n 0, 1) := by decide +kernel
theorem d112_16 : decode prog_2_method_4_code 16 = .ok (.getfield 20, 3) := by decide +kernel
theorem d112_19 : decode prog_2_method_4_code 19 = .ok (.arraylength, 1) := by decide +kernel
theorem d112_20 : decode prog_2_method_4_code 20 = .ok (.if_icmp .lt 4, 3) := by decide +kernel
theorem d112_23 : decode prog_2_method_4_code 23 = .ok (.return_, 1) := by decide +kernel
theorem d112_24 : decode prog_2_method_4_code 24 = .ok (.aload_n 0, 1) := by decide +kernel
theorem d112_25 : decode prog_2_method_4_code 25 = .ok (.getfield 20, 3) := by decide +kernel
theorem d112_28 : decode prog_2_method_4_code 28 = .ok (.iload_n 2, 1) := by decide +kernel
theorem d112_29 : decode prog_2_method_4_code 29 = .ok (.aload_n 0, 1) := by decide +kernel
theorem d112_30 : decode prog_2_method_4_code 30 = .ok (.getfield 42, 3) := by decide +kernel
theorem d112_33 : decode prog_2_method_4_code 33 = .ok (.iastore, 1) := by decide +kernel
theorem d112_34 : decode prog_2_method_4_code 34 = .ok (.aload_n 0, 1) := by decide +kernel
theorem d112_35 : decode prog_2_method_4_code 35 = .ok (.getfield 24, 3) := by decide +kernel
theorem d112_38 : decode prog_2_method_4_code 38 = .ok (.aload_n 0, 1) := by decide +kernel
theorem d112_39 : decode prog_2_method_4_code 39 = .ok (.getfield 42, 3) := by decide +kernel
theorem d112_42 : decode prog_2_method_4_code 42 = .ok (.iload_n 1, 1) := by decide +kernel
theorem d112_43 : decode prog_2_method_4_code 43 = .ok (.iastore, 1) := by decide +kernel
theorem d112_44 : decode prog_2_method_4_code 44 = .ok (.aload_n 0, 1) := by decide +kernel
theorem d112_45 : decode prog_2_method_4_code 45 = .ok (.getfield 27, 3) := by decide +kernel
theorem d112_48 : decode prog_2_method_4_code 48 = .ok (.aload_n 0, 1) := by decide +kernel
theorem d112_49 : decode prog_2_method_4_code 49 = .ok (.getfield 42, 3) := by decide +kernel
theorem d112_52 : decode prog_2_method_4_code 52 = .ok (.iconst 0, 1) := by decide +kernel
theorem d112_53 : decode prog_2_method_4_code 53 = .ok (.iastore, 1) := by decide +kernel
theorem d112_54 : decode prog_2_method_4_code 54 = .ok (.aload_n 0, 1) := by decide +kernel
theorem d112_55 : decode prog_2_method_4_code 55 = .ok (.getfield 30, 3) := by decide +kernel
theorem d112_58 : decode prog_2_method_4_code 58 = .ok (.aload_n 0, 1) := by decide +kernel
theorem d112_59 : decode prog_2_method_4_code 59 = .ok (.getfield 42, 3) := by decide +kernel
theorem d112_62 : decode prog_2_method_4_code 62 = .ok (.iconst (-1), 1) := by decide +kernel
theorem d112_63 : decode prog_2_method_4_code 63 = .ok (.iastore, 1) := by decide +kernel
theorem d112_64 : decode prog_2_method_4_code 64 = .ok (.aload_n 0, 1) := by decide +kernel
theorem d112_65 : decode prog_2_method_4_code 65 = .ok (.getfield 33, 3) := by decide +kernel
theorem d112_68 : decode prog_2_method_4_code 68 = .ok (.aload_n 0, 1) := by decide +kernel
theorem d112_69 : decode prog_2_method_4_code 69 = .ok (.getfield 42, 3) := by decide +kernel
theorem d112_72 : decode prog_2_method_4_code 72 = .ok (.iload_n 3, 1) := by decide +kernel
theorem d112_73 : decode prog_2_method_4_code 73 = .ok (.iastore, 1) := by decide +kernel
theorem d112_74 : decode prog_2_method_4_code 74 = .ok (.aload_n 0, 1) := by decide +kernel
theorem d112_75 : decode prog_2_method_4_code 75 = .ok (.getfield 36, 3) := by decide +kernel
theorem d112_78 : decode prog_2_method_4_code 78 = .ok (.aload_n 0, 1) := by decide +kernel
theorem d112_79 : decode prog_2_method_4_code 79 = .ok (.getfield 42, 3) := by decide +kernel
theorem d112_82 : decode prog_2_method_4_code 82 = .ok (.iconst 0, 1) := by decide +kernel
theorem d112_83 : decode prog_2_method_4_code 83 = .ok (.iastore, 1) := by decide +kernel
theorem d112_84 : decode prog_2_method_4_code 84 = .ok (.aload_n 0, 1) := by decide +kernel
theorem d112_85 : decode prog_2_method_4_code 85 = .ok (.dup, 1) := by decide +kernel
theorem d112_86 : decode prog_2_method_4_code 86 = .ok (.getfield 42, 3) := by decide +kernel
theorem d112_89 : decode prog_2_method_4_code 89 = .ok (.iconst 1, 1) := by decide +kernel
theorem d112_90 : decode prog_2_method_4_code 90 = .ok (.iadd, 1) := by decide +kernel
theorem d112_91 : decode prog_2_method_4_code 91 = .ok (.putfield 42, 3) := by decide +kernel
theorem d112_94 : decode prog_2_method_4_code 94 = .ok (.iload_n 1, 1) := by decide +kernel
theorem d112_95 : decode prog_2_method_4_code 95 = .ok (.iconst 3, 1) := by decide +kernel
theorem d112_96 : decode prog_2_method_4_code 96 = .ok (.if_icmp .ne 19, 3) := by decide +kernel
theorem d112_99 : decode prog_2_method_4_code 99 = .ok (.aload_n 0, 1) := by decide +kernel
theorem d112_100 : decode prog_2_method_4_code 100 = .ok (.iconst 1, 1) := by decide +kernel
theorem d112_101 : decode prog_2_method_4_code 101 = .ok (.putfield 49, 3) := by decide +kernel
theorem d112_104 : decode prog_2_method_4_code 104 = .ok (.aload_n 0, 1) := by decide +kernel
theorem d112_105 : decode prog_2_method_4_code 105 = .ok (.sipush 960, 3) := by decide +kernel
theorem d112_108 : decode prog_2_method_4_code 108 = .ok (.invokevirtual 64, 3) := by decide +kernel
theorem d112_111 : decode prog_2_method_4_code 111 = .ok (.pop, 1) := by decide +kernel
theorem d112_112 : decode prog_2_method_4_code 112 = .ok (.goto 14, 3) := by decide +kernel
theorem d112_115 : decode prog_2_method_4_code 115 = .ok (.iload_n 1, 1) := by decide +kernel
theorem d112_116 : decode prog_2_method_4_code 116 = .ok (.iconst 1, 1) := by decide +kernel
theorem d112_117 : decode prog_2_method_4_code 117 = .ok (.if_icmp .ne 9, 3) := by decide +kernel
theorem d112_120 : decode prog_2_method_4_code 120 = .ok (.aload_n 0, 1) := by decide +kernel
theorem d112_121 : decode prog_2_method_4_code 121 = .ok (.iconst 1, 1) := by decide +kernel
theorem d112_122 : decode prog_2_method_4_code 122 = .ok (.invokevirtual 64, 3) := by decide +kernel
theorem d112_125 : decode prog_2_method_4_code 125 = .ok (.pop, 1) := by decide +kernel
theorem d112_126 : decode prog_2_method_4_code 126 = .ok (.return_, 1) := by decide +kernel
theorem m112 : pm_m 112 = some (⟨"TypeRules$Blocks", "begin", "(III)V"⟩, prog_2_method_4_code, 4, none, 5, 3, 6) := rfl
theorem d143_0 : decode prog_7_method_5_code 0 = .ok (.aload_n 0, 1) := by decide +kernel
theorem d143_1 : decode prog_7_method_5_code 1 = .ok (.getfield 9, 3) := by decide +kernel
theorem d143_4 : decode prog_7_method_5_code 4 = .ok (.iload_n 1, 1) := by decide +kernel
theorem d143_5 : decode prog_7_method_5_code 5 = .ok (.invokevirtual 110, 3) := by decide +kernel
theorem d143_8 : decode prog_7_method_5_code 8 = .ok (.istore_n 2, 1) := by decide +kernel
theorem d143_9 : decode prog_7_method_5_code 9 = .ok (.aload_n 0, 1) := by decide +kernel
theorem d143_10 : decode prog_7_method_5_code 10 = .ok (.getfield 9, 3) := by decide +kernel
theorem d143_13 : decode prog_7_method_5_code 13 = .ok (.iload_n 1, 1) := by decide +kernel
theorem d143_14 : decode prog_7_method_5_code 14 = .ok (.invokevirtual 95, 3) := by decide +kernel
theorem d143_17 : decode prog_7_method_5_code 17 = .ok (.istore_n 3, 1) := by decide +kernel
theorem d143_18 : decode prog_7_method_5_code 18 = .ok (.aload_n 0, 1) := by decide +kernel
theorem d143_19 : decode prog_7_method_5_code 19 = .ok (.getfield 19, 3) := by decide +kernel
theorem d143_22 : decode prog_7_method_5_code 22 = .ok (.invokevirtual 113, 3) := by decide +kernel
theorem d143_25 : decode prog_7_method_5_code 25 = .ok (.ifCond .eq 6, 3) := by decide +kernel
theorem d143_28 : decode prog_7_method_5_code 28 = .ok (.bipush 10, 2) := by decide +kernel
theorem d143_30 : decode prog_7_method_5_code 30 = .ok (.ireturn, 1) := by decide +kernel
theorem d143_31 : decode prog_7_method_5_code 31 = .ok (.aload_n 0, 1) := by decide +kernel
theorem d143_32 : decode prog_7_method_5_code 32 = .ok (.getfield 19, 3) := by decide +kernel
theorem d143_35 : decode prog_7_method_5_code 35 = .ok (.iload_n 2, 1) := by decide +kernel
theorem d143_36 : decode prog_7_method_5_code 36 = .ok (.invokevirtual 117, 3) := by decide +kernel
theorem d143_39 : decode prog_7_method_5_code 39 = .ok (.iconst (-1), 1) := by decide +kernel
theorem d143_40 : decode prog_7_method_5_code 40 = .ok (.if_icmp .ne 11, 3) := by decide +kernel
theorem d143_43 : decode prog_7_method_5_code 43 = .ok (.iload_n 2, 1) := by decide +kernel
theorem d143_44 : decode prog_7_method_5_code 44 = .ok (.invokestatic 120, 3) := by decide +kernel
theorem d143_47 : decode prog_7_method_5_code 47 = .ok (.iconst (-1), 1) := by decide +kernel
theorem d143_48 : decode prog_7_method_5_code 48 = .ok (.if_icmp .eq 6, 3) := by decide +kernel
theorem d143_51 : decode prog_7_method_5_code 51 = .ok (.bipush 11, 2) := by decide +kernel
theorem d143_53 : decode prog_7_method_5_code 53 = .ok (.ireturn, 1) := by decide +kernel
theorem d143_54 : decode prog_7_method_5_code 54 = .ok (.iload_n 3, 1) := by decide +kernel
theorem d143_55 : decode prog_7_method_5_code 55 = .ok (.iconst 1, 1) := by decide +kernel
theorem d143_56 : decode prog_7_method_5_code 56 = .ok (.if_icmp .ne 16, 3) := by decide +kernel
theorem d143_59 : decode prog_7_method_5_code 59 = .ok (.aload_n 0, 1) := by decide +kernel
theorem d143_60 : decode prog_7_method_5_code 60 = .ok (.getfield 9, 3) := by decide +kernel
theorem d143_63 : decode prog_7_method_5_code 63 = .ok (.iload_n 1, 1) := by decide +kernel
theorem d143_64 : decode prog_7_method_5_code 64 = .ok (.iconst 1, 1) := by decide +kernel
theorem d143_65 : decode prog_7_method_5_code 65 = .ok (.iadd, 1) := by decide +kernel
theorem d143_66 : decode prog_7_method_5_code 66 = .ok (.invokevirtual 110, 3) := by decide +kernel
theorem d143_69 : decode prog_7_method_5_code 69 = .ok (.goto 4, 3) := by decide +kernel
theorem d143_72 : decode prog_7_method_5_code 72 = .ok (.iconst (-1), 1) := by decide +kernel
theorem d143_73 : decode prog_7_method_5_code 73 = .ok (.istore 4, 2) := by decide +kernel
theorem d143_75 : decode prog_7_method_5_code 75 = .ok (.aload_n 0, 1) := by decide +kernel
theorem d143_76 : decode prog_7_method_5_code 76 = .ok (.getfield 19, 3) := by decide +kernel
theorem d143_79 : decode prog_7_method_5_code 79 = .ok (.iload_n 3, 1) := by decide +kernel
theorem d143_80 : decode prog_7_method_5_code 80 = .ok (.iload_n 2, 1) := by decide +kernel
theorem d143_81 : decode prog_7_method_5_code 81 = .ok (.iload 4, 2) := by decide +kernel
theorem d143_83 : decode prog_7_method_5_code 83 = .ok (.invokevirtual 125, 3) := by decide +kernel
theorem d143_86 : decode prog_7_method_5_code 86 = .ok (.iload_n 3, 1) := by decide +kernel
theorem d143_87 : decode prog_7_method_5_code 87 = .ok (.iconst 1, 1) := by decide +kernel
theorem d143_88 : decode prog_7_method_5_code 88 = .ok (.if_icmp .ne 35, 3) := by decide +kernel
theorem d143_91 : decode prog_7_method_5_code 91 = .ok (.aload_n 0, 1) := by decide +kernel
theorem d143_92 : decode prog_7_method_5_code 92 = .ok (.getfield 29, 3) := by decide +kernel
theorem d143_95 : decode prog_7_method_5_code 95 = .ok (.aload_n 0, 1) := by decide +kernel
theorem d143_96 : decode prog_7_method_5_code 96 = .ok (.getfield 19, 3) := by decide +kernel
theorem d143_99 : decode prog_7_method_5_code 99 = .ok (.invokevirtual 129, 3) := by decide +kernel
theorem d143_102 : decode prog_7_method_5_code 102 = .ok (.iload_n 2, 1) := by decide +kernel
theorem d143_103 : decode prog_7_method_5_code 103 = .ok (.iconst 0, 1) := by decide +kernel
theorem d143_104 : decode prog_7_method_5_code 104 = .ok (.invokevirtual 132, 3) := by decide +kernel
theorem d143_107 : decode prog_7_method_5_code 107 = .ok (.istore 5, 2) := by decide +kernel
theorem d143_109 : decode prog_7_method_5_code 109 = .ok (.aload_n 0, 1) := by decide +kernel
theorem d143_110 : decode prog_7_method_5_code 110 = .ok (.getfield 29, 3) := by decide +kernel
theorem d143_113 : decode prog_7_method_5_code 113 = .ok (.iload 5, 2) := by decide +kernel
theorem d143_115 : decode prog_7_method_5_code 115 = .ok (.bipush 8, 2) := by decide +kernel
theorem d143_117 : decode prog_7_method_5_code 117 = .ok (.iload 4, 2) := by decide +kernel
theorem d143_119 : decode prog_7_method_5_code 119 = .ok (.iconst 0, 1) := by decide +kernel
theorem d143_120 : decode prog_7_method_5_code 120 = .ok (.invokevirtual 138, 3) := by decide +kernel
theorem d143_123 : decode prog_7_method_5_code 123 = .ok (.iconst 0, 1) := by decide +kernel
theorem d143_124 : decode prog_7_method_5_code 124 = .ok (.ireturn, 1) := by decide +kernel
theorem m143 : pm_m 143 = some (⟨"TypeRules$Rules", "enterBlock", "(I)I"⟩, prog_7_method_5_code, 6, (some FieldType.int), 7, 1, 8) := rfl
/-! A BLOCK BEGINS, in the class -/
def cg_B (σ τ : pm_S) (c : Nat) (x k rr : Int32) : Prop := cb_U σ τ ∧ τ.1 5 8 = nI (c + 1) ∧ τ.1 5 10 = σ.1 5 10 ∧ τ.2.2 27 = upd (σ.2.2 27) x.toNatClampNeg (nI c) ∧ τ.2.2 28 = upd (σ.2.2 28) c k ∧ τ.2.2 29 = upd (σ.2.2 29) c 0 ∧ τ.2.2 30 = upd (σ.2.2 30) c (-1) ∧ τ.2.2 31 = upd (σ.2.2 31) c rr ∧ τ.2.2 32 = upd (σ.2.2 32) c 0 ∧ τ.2.2 33 = σ.2.2 33
theorem cg_gen {σ τ0 : pm_S} {c : Nat} {x k rr : Int32} {C : pm_C} {L : List Value} {Q : Option Value → pm_S → Prop} (h : cg_B σ τ0 c x k rr) (hP : ∀ τ, cg_B σ τ c x k rr → pm_WP pm_Y0 C 5 prog_2_method_4_code none Q 94 L [] τ) : pm_WP pm_Y0 C 5 prog_2_method_4_code none Q 94 L [] τ0 := hP _ h
theorem sp112 {d : Nat} {σ : pm_S} {Q : Option Value → pm_S → Prop} {c : Nat} {x k rr : Int32} (hc : σ.1 5 8 = nI c) (hc8 : c < 418) (hx : 0 ≤ x.toInt ∧ x.toInt < 4171) (hQ : ∀ τ, cg_B σ τ c x k rr → pm_WP pm_Y0 (pm_call pm_Y0 d) 5 prog_2_method_4_code none Q 94 [.ref 5, .int k, .int x, .int rr] [] τ) : pm_call pm_Y0 (d + 1) 112 [.ref 5, .int k, .int x, .int rr] σ Q := by
  have ec := nI_toInt (n := c) (by omega)
  have ek := nI_clamp (n := c) (by omega)
  have BD : vp_in (nI c) 418 := vp_in_iff.mpr (by rw [ec]; omega)
  refine wq_m m112 (Nat.le_of_ble_eq_true rfl) (by decide) rfl ?_
  refine wq_l 1 d112_0 rfl rfl rfl rfl ?_
  refine wq_gf (ci := 5) (j := 8) (f := 0) (v := .int (nI c)) 4 d112_1 rfl rfl rfl (congrArg Value.int (hc)) rfl ?_
  refine wq_k 7 418 d112_4 (by decide) rfl ?_
  refine wq_b 23 10 d112_7 rfl (by decide) rfl (fun c7 => absurd c7 (by rw [i_le, ec]; show ¬ (418 : Int) ≤ _; omega)) (fun c7 => ?_)
  refine wq_l 11 d112_10 rfl rfl rfl rfl ?_
  refine wq_b 23 14 d112_11 rfl (by decide) rfl (fun c11 => absurd c11 (by rw [i_lt]; show ¬ _ < (0 : Int); omega)) (fun c11 => ?_)
  refine wq_l 15 d112_14 rfl rfl rfl rfl ?_
  refine wq_l 16 d112_15 rfl rfl rfl rfl ?_
  refine wq_gr (ci := 5) (j := 1) (q := 27) 19 d112_16 rfl rfl rfl rfl ?_
  refine wq_len 20 d112_19 rfl rfl rfl ?_
  refine wq_b 24 23 d112_20 rfl (by decide) rfl (fun c20 => ?_) (fun c20 => absurd (by rw [i_lt]; show _ < (4171 : Int); omega) c20)
  refine wq_l 25 d112_24 rfl rfl rfl rfl ?_
  refine wq_gr (ci := 5) (j := 1) (q := 27) 28 d112_25 rfl rfl rfl rfl ?_
  refine wq_l 29 d112_28 rfl rfl rfl rfl ?_
  refine wq_l 30 d112_29 rfl rfl rfl rfl ?_
  refine wq_gf (ci := 5) (j := 8) (f := 0) (v := .int (nI c)) 33 d112_30 rfl rfl rfl (congrArg Value.int (hc)) rfl ?_
  refine wq_as 34 d112_33 rfl rfl rfl (vp_in_iff.mpr (by omega)) ?_
  refine wq_l 35 d112_34 rfl rfl rfl rfl ?_
  refine wq_gr (ci := 5) (j := 2) (q := 28) 38 d112_35 rfl rfl rfl rfl ?_
  refine wq_l 39 d112_38 rfl rfl rfl rfl ?_
  refine wq_gf (ci := 5) (j := 8) (f := 0) (v := .int (nI c)) 42 d112_39 rfl rfl rfl (congrArg Value.int (hc)) rfl ?_
  refine wq_l 43 d112_42 rfl rfl rfl rfl ?_
  refine wq_as 44 d112_43 rfl rfl rfl (BD) ?_
  rw [ek]
  refine wq_l 45 d112_44 rfl rfl rfl rfl ?_
  refine wq_gr (ci := 5) (j := 3) (q := 29) 48 d112_45 rfl rfl rfl rfl ?_
  refine wq_l 49 d112_48 rfl rfl rfl rfl ?_
  refine wq_gf (ci := 5) (j := 8) (f := 0) (v := .int (nI c)) 52 d112_49 rfl rfl rfl (congrArg Value.int (hc)) rfl ?_
  refine wq_k 53 0 d112_52 (by decide) rfl ?_
  refine wq_as 54 d112_53 rfl rfl rfl (BD) ?_
  rw [ek]
  refine wq_l 55 d112_54 rfl rfl rfl rfl ?_
  refine wq_gr (ci := 5) (j := 4) (q := 30) 58 d112_55 rfl rfl rfl rfl ?_
  refine wq_l 59 d112_58 rfl rfl rfl rfl ?_
  refine wq_gf (ci := 5) (j := 8) (f := 0) (v := .int (nI c)) 62 d112_59 rfl rfl rfl (congrArg Value.int (hc)) rfl ?_
  refine wq_k 63 (-1) d112_62 (by decide) rfl ?_
  refine wq_as 64 d112_63 rfl rfl rfl (BD) ?_
  rw [ek]
  refine wq_l 65 d112_64 rfl rfl rfl rfl ?_
  refine wq_gr (ci := 5) (j := 5) (q := 31) 68 d112_65 rfl rfl rfl rfl ?_
  refine wq_l 69 d112_68 rfl rfl rfl rfl ?_
  refine wq_gf (ci := 5) (j := 8) (f := 0) (v := .int (nI c)) 72 d112_69 rfl rfl rfl (congrArg Value.int (hc)) rfl ?_
  refine wq_l 73 d112_72 rfl rfl rfl rfl ?_
  refine wq_as 74 d112_73 rfl rfl rfl (BD) ?_
  rw [ek]
  refine wq_l 75 d112_74 rfl rfl rfl rfl ?_
  refine wq_gr (ci := 5) (j := 6) (q := 32) 78 d112_75 rfl rfl rfl rfl ?_
  refine wq_l 79 d112_78 rfl rfl rfl rfl ?_
  refine wq_gf (ci := 5) (j := 8) (f := 0) (v := .int (nI c)) 82 d112_79 rfl rfl rfl (congrArg Value.int (hc)) rfl ?_
  refine wq_k 83 0 d112_82 (by decide) rfl ?_
  refine wq_as 84 d112_83 rfl rfl rfl (BD) ?_
  rw [ek]
  refine wq_l 85 d112_84 rfl rfl rfl rfl ?_
  refine wq_a 86 d112_85 rfl rfl ?_
  refine wq_gf (ci := 5) (j := 8) (f := 0) (v := .int (nI c)) 89 d112_86 rfl rfl rfl (congrArg Value.int (hc)) rfl ?_
  refine wq_k 90 1 d112_89 (by decide) rfl ?_
  refine wq_a 91 d112_90 rfl rfl ?_
  refine wq_pf (ci := 5) (j := 8) 94 d112_91 rfl rfl rfl ⟨rfl, rfl⟩ rfl ?_
  refine cg_gen (σ := σ) (c := c) (x := x) (k := k) (rr := rr) ⟨cb_Upi (cb_Upr (cb_Upr (cb_Upr (cb_Upr (cb_Upr (cb_Upr (cb_Ur σ) (by decide)) (by decide)) (by decide)) (by decide)) (by decide)) (by decide)) (by decide), nI_1 c, rfl, rfl, rfl, rfl, rfl, rfl, rfl, rfl⟩ hQ
theorem cb_fr {l : List pg_N} {NN k i : Nat} {x rr : Int32} {B : List rl_B} {σ τ : pm_S} (h : cb_I l NN B σ) (hb : B.length < 409) (hN : NN ≤ 4171) (hx : 0 ≤ x.toInt ∧ x.toInt < NN) (hf : cb_nm B x = none) (hr : rr = (if k = 1 then rl_v l (i + 1) else -1)) (g : cg_B σ τ (9 + B.length) x (nI k) rr) (h10 : σ.1 5 10 = b2 (decide (k = 3))) : cb_I l NN ((k, x, i, 0, []) :: B) τ := by
  obtain ⟨g1, g2, g3, g4, g5, g6, g7, g8, g9, g10⟩ := g
  obtain ⟨q1, q2, q3, q4, q5, q6⟩ := h
  refine ⟨by rw [List.length_cons]; omega, by rw [g2, List.length_cons]; rfl, g3.trans h10, fun s hs => ?_, fun b y hy => ?_, fun z hz => ?_⟩
  · rw [g5, g6, upd_if, upd_if, if_neg (by omega), if_neg (by omega)]; exact q4 s hs
  · rw [rl_blkc] at hy
    by_cases w : b = B.length
    · rw [if_pos w] at hy
      cases hy
      subst w
      refine ⟨?_, ?_, ?_, ?_, ?_, fun j t _ ht => ?_⟩
      · rw [g5, upd_if, if_pos rfl]
      · rw [g6, upd_if, if_pos rfl]; rfl
      · rw [g7, upd_if, if_pos rfl]
      · rw [g8, upd_if, if_pos rfl]; exact hr
      · rw [g9, upd_if, if_pos rfl]; rfl
      · have ht : ([] : List Int32)[j]? = some t := ht
        simp at ht
    · rw [if_neg w] at hy
      have := q5 b y hy
      have nb : ¬ 9 + b = 9 + B.length := by omega
      unfold cb_at at this ⊢
      rw [g5, g6, g7, g8, g9, g10, upd_if, upd_if, upd_if, upd_if, upd_if, if_neg nb, if_neg nb, if_neg nb, if_neg nb, if_neg nb]
      exact this
  · rw [g4, upd_if]
    by_cases w : z = x.toNatClampNeg
    · rw [if_pos w]
      have e : nI z = x := by rw [w]; exact nI_cl x hx.1
      rw [e]
      unfold cb_nm at hf ⊢
      cases es : rl_sb x with
      | some s => rw [es] at hf; cases hf
      | none =>
        dsimp only
        unfold rl_own
        rw [if_pos rfl]
        rfl
    · rw [if_neg w, q6 z hz]
      congr 1
      refine (cb_nmt (B := (k, x, i, 0, []) :: B) (x := nI z) ?_).symm
      intro u
      apply w
      have u : x = nI z := u
      rw [u, nI_clamp (by omega)]
theorem cb112_2 {d : Nat} {σ : pm_S} {Q : Option Value → pm_S → Prop} {l : List pg_N} {NN i : Nat} {x rr : Int32} {B : List rl_B} (h : cb_I l NN B σ) (hb : B.length < 409) (hN : NN ≤ 4171) (hx : 0 ≤ x.toInt ∧ x.toInt < NN) (hf : cb_nm B x = none) (hr : rr = -1) (hnp : ¬ (rl_hd B).1 = 3) (hQ : ∀ σ', cb_I l NN ((2, x, i, 0, []) :: B) σ' → cb_U σ σ' → Q none σ') : pm_call pm_Y0 (d + 2) 112 [.ref 5, .int 2, .int x, .int rr] σ Q := by
  have h10 : σ.1 5 10 = 0 := by rw [h.2.2.1, decide_eq_false hnp]; rfl
  refine sp112 (c := 9 + B.length) h.2.1 (by omega) (by omega) (fun τ g => ?_)
  refine wq_l 95 d112_94 rfl rfl rfl rfl ?_
  refine wq_k 96 3 d112_95 (by decide) rfl ?_
  refine wq_b 115 99 d112_96 rfl (by decide) rfl (fun c96 => ?_) (fun c96 => absurd (by decide) c96)
  refine wq_l 116 d112_115 rfl rfl rfl rfl ?_
  refine wq_k 117 1 d112_116 (by decide) rfl ?_
  refine wq_b 126 120 d112_117 rfl (by decide) rfl (fun c117 => ?_) (fun c117 => absurd (by decide) c117)
  refine wq_rv d112_126 ?_
  exact hQ _ (cb_fr (k := 2) h hb hN hx hf hr g h10) g.1
theorem cb_p3 {l : List pg_N} {NN i : Nat} {x rr : Int32} {B : List rl_B} {σ τ : pm_S} (h : cb_I l NN B σ) (hb : B.length < 409) (hN : NN ≤ 4171) (hx : 0 ≤ x.toInt ∧ x.toInt < NN) (hf : cb_nm B x = none) (hr : rr = -1) (g : cg_B σ τ (9 + B.length) x (nI 3) rr) : cb_I l NN ((3, x, i, 0, []) :: B) (pm_pi τ 5 10 1) := by
  obtain ⟨q1, q2, q3, q4, q5, q6⟩ := h
  obtain ⟨g1, g2, g3, g4, g5, g6, g7, g8, g9, g10⟩ := g
  refine ⟨by rw [List.length_cons]; omega, by show τ.1 5 8 = _; rw [g2, List.length_cons]; rfl, rfl, fun s hs => ?_, fun b y hy => ?_, fun z hz => ?_⟩
  · show τ.2.2 28 s = 2 ∧ τ.2.2 29 s = _
    rw [g5, g6, upd_if, upd_if, if_neg (by omega), if_neg (by omega)]; exact q4 s hs
  · rw [rl_blkc] at hy
    by_cases w : b = B.length
    · rw [if_pos w] at hy
      cases hy
      subst w
      refine ⟨?_, ?_, ?_, ?_, ?_, fun j t _ ht => ?_⟩
      · show τ.2.2 28 _ = _; rw [g5, upd_if, if_pos rfl]
      · show τ.2.2 29 _ = _; rw [g6, upd_if, if_pos rfl]; rfl
      · show τ.2.2 30 _ = _; rw [g7, upd_if, if_pos rfl]
      · show τ.2.2 31 _ = _; rw [g8, upd_if, if_pos rfl]; exact hr
      · show τ.2.2 32 _ = _; rw [g9, upd_if, if_pos rfl]; rfl
      · have ht : ([] : List Int32)[j]? = some t := ht
        simp at ht
    · rw [if_neg w] at hy
      have := q5 b y hy
      show cb_at l τ b y
      have nb : ¬ 9 + b = 9 + B.length := by omega
      unfold cb_at at this ⊢
      rw [g5, g6, g7, g8, g9, g10, upd_if, upd_if, upd_if, upd_if, upd_if, if_neg nb, if_neg nb, if_neg nb, if_neg nb, if_neg nb]
      exact this
  · show τ.2.2 27 z = _
    rw [g4, upd_if]
    by_cases w : z = x.toNatClampNeg
    · rw [if_pos w]
      have e : nI z = x := by rw [w]; exact nI_cl x hx.1
      rw [e]
      unfold cb_nm at hf ⊢
      cases es : rl_sb x with
      | some s => rw [es] at hf; cases hf
      | none =>
        dsimp only
        unfold rl_own
        rw [if_pos rfl]
        rfl
    · rw [if_neg w, q6 z hz]
      congr 1
      refine (cb_nmt (B := (3, x, i, 0, []) :: B) (x := nI z) ?_).symm
      intro u
      apply w
      have u : x = nI z := u
      rw [u, nI_clamp (by omega)]
theorem cb112_3 {d : Nat} {σ : pm_S} {Q : Option Value → pm_S → Prop} {l : List pg_N} {NN i : Nat} {x rr : Int32} {B : List rl_B} (h : cb_I l NN B σ) (hb : B.length < 409) (hN : NN ≤ 4171) (hx : 0 ≤ x.toInt ∧ x.toInt < NN) (hf : cb_nm B x = none) (hr : rr = -1) (hnp : ¬ (rl_hd B).1 = 3) (hQ : ∀ σ', cb_I l NN ((3, x, i, 960, []) :: B) σ' → cb_U σ σ' → Q none σ') : pm_call pm_Y0 (d + 2) 112 [.ref 5, .int 3, .int x, .int rr] σ Q := by
  have h10 : σ.1 5 10 = 0 := by rw [h.2.2.1, decide_eq_false hnp]; rfl
  refine sp112 (c := 9 + B.length) h.2.1 (by omega) (by omega) (fun τ g => ?_)
  refine wq_l 95 d112_94 rfl rfl rfl rfl ?_
  refine wq_k 96 3 d112_95 (by decide) rfl ?_
  refine wq_b 115 99 d112_96 rfl (by decide) rfl (fun c96 => absurd c96 (fun z => z rfl)) (fun c96 => ?_)
  refine wq_l 100 d112_99 rfl rfl rfl rfl ?_
  refine wq_k 101 1 d112_100 (by decide) rfl ?_
  refine wq_pf (ci := 5) (j := 10) 104 d112_101 rfl rfl rfl (⟨by decide, by decide⟩) rfl ?_
  refine wq_l 105 d112_104 rfl rfl rfl rfl ?_
  refine wq_k 108 960 d112_105 (by decide) rfl ?_
  refine wq_v 111 [_] d112_108 rfl rfl m113 rfl rfl (Nat.le_of_ble_eq_true rfl) rfl (cb113 (cb_p3 (i := i) h hb hN hx hf hr g) (fun σ108 h108 u108 => ?_))
  refine wq_a 112 d112_111 rfl rfl ?_
  refine wq_g 126 d112_112 (by decide) ?_
  refine wq_rv d112_126 ?_
  exact hQ _ h108 (cb_Ut (cb_Upi g.1 (by decide)) u108)
theorem cb112_1 {d : Nat} {σ : pm_S} {Q : Option Value → pm_S → Prop} {l : List pg_N} {NN i : Nat} {x rr : Int32} {B : List rl_B} (h : cb_I l NN B σ) (hb : B.length < 409) (hN : NN ≤ 4171) (hx : 0 ≤ x.toInt ∧ x.toInt < NN) (hf : cb_nm B x = none) (hr : rr = rl_v l (i + 1)) (hnp : ¬ (rl_hd B).1 = 3) (hQ : ∀ σ', cb_I l NN ((1, x, i, 1, []) :: B) σ' → cb_U σ σ' → Q none σ') : pm_call pm_Y0 (d + 2) 112 [.ref 5, .int 1, .int x, .int rr] σ Q := by
  have h10 : σ.1 5 10 = 0 := by rw [h.2.2.1, decide_eq_false hnp]; rfl
  refine sp112 (c := 9 + B.length) h.2.1 (by omega) (by omega) (fun τ g => ?_)
  refine wq_l 95 d112_94 rfl rfl rfl rfl ?_
  refine wq_k 96 3 d112_95 (by decide) rfl ?_
  refine wq_b 115 99 d112_96 rfl (by decide) rfl (fun c96 => ?_) (fun c96 => absurd (by decide) c96)
  refine wq_l 116 d112_115 rfl rfl rfl rfl ?_
  refine wq_k 117 1 d112_116 (by decide) rfl ?_
  refine wq_b 126 120 d112_117 rfl (by decide) rfl (fun c117 => absurd c117 (fun z => z rfl)) (fun c117 => ?_)
  refine wq_l 121 d112_120 rfl rfl rfl rfl ?_
  refine wq_k 122 1 d112_121 (by decide) rfl ?_
  refine wq_v 125 [_] d112_122 rfl rfl m113 rfl rfl (Nat.le_of_ble_eq_true rfl) rfl (cb113 (cb_fr (k := 1) (i := i) h hb hN hx hf hr g h10) (fun σ122 h122 u122 => ?_))
  refine wq_a 126 d112_125 rfl rfl ?_
  refine wq_rv d112_126 ?_
  exact hQ _ h122 (cb_Ut g.1 u122)
