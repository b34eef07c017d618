theorem d190_0 : decode prog_8_method_12_code 0 = .ok (.lload 4, 2) := by decide +kernel
theorem d190_2 : decode prog_8_method_12_code 2 = .ok (.lconst 0, 1) := by decide +kernel
theorem d190_3 : decode prog_8_method_12_code 3 = .ok (.lcmp, 1) := by decide +kernel
theorem d190_4 : decode prog_8_method_12_code 4 = .ok (.ifCond .eq 29, 3) := by decide +kernel
theorem d190_7 : decode prog_8_method_12_code 7 = .ok (.lload 4, 2) := by decide +kernel
theorem d190_9 : decode prog_8_method_12_code 9 = .ok (.lconst 0, 1) := by decide +kernel
theorem d190_10 : decode prog_8_method_12_code 10 = .ok (.lcmp, 1) := by decide +kernel
theorem d190_11 : decode prog_8_method_12_code 11 = .ok (.ifCond .le 9, 3) := by decide +kernel
theorem d190_14 : decode prog_8_method_12_code 14 = .ok (.lload_n 0, 1) := by decide +kernel
theorem d190_15 : decode prog_8_method_12_code 15 = .ok (.lload_n 2, 1) := by decide +kernel
theorem d190_16 : decode prog_8_method_12_code 16 = .ok (.lcmp, 1) := by decide +kernel
theorem d190_17 : decode prog_8_method_12_code 17 = .ok (.ifCond .gt 16, 3) := by decide +kernel
theorem d190_20 : decode prog_8_method_12_code 20 = .ok (.lload 4, 2) := by decide +kernel
theorem d190_22 : decode prog_8_method_12_code 22 = .ok (.lconst 0, 1) := by decide +kernel
theorem d190_23 : decode prog_8_method_12_code 23 = .ok (.lcmp, 1) := by decide +kernel
theorem d190_24 : decode prog_8_method_12_code 24 = .ok (.ifCond .ge 11, 3) := by decide +kernel
theorem d190_27 : decode prog_8_method_12_code 27 = .ok (.lload_n 0, 1) := by decide +kernel
theorem d190_28 : decode prog_8_method_12_code 28 = .ok (.lload_n 2, 1) := by decide +kernel
theorem d190_29 : decode prog_8_method_12_code 29 = .ok (.lcmp, 1) := by decide +kernel
theorem d190_30 : decode prog_8_method_12_code 30 = .ok (.ifCond .ge 5, 3) := by decide +kernel
theorem d190_33 : decode prog_8_method_12_code 33 = .ok (.lconst 0, 1) := by decide +kernel
theorem d190_34 : decode prog_8_method_12_code 34 = .ok (.lreturn, 1) := by decide +kernel
theorem d190_35 : decode prog_8_method_12_code 35 = .ok (.lload_n 2, 1) := by decide +kernel
theorem d190_36 : decode prog_8_method_12_code 36 = .ok (.lload_n 0, 1) := by decide +kernel
theorem d190_37 : decode prog_8_method_12_code 37 = .ok (.lsub, 1) := by decide +kernel
theorem d190_38 : decode prog_8_method_12_code 38 = .ok (.lload 4, 2) := by decide +kernel
theorem d190_40 : decode prog_8_method_12_code 40 = .ok (.ldiv, 1) := by decide +kernel
theorem d190_41 : decode prog_8_method_12_code 41 = .ok (.lconst 1, 1) := by decide +kernel
theorem d190_42 : decode prog_8_method_12_code 42 = .ok (.ladd, 1) := by decide +kernel
theorem d190_43 : decode prog_8_method_12_code 43 = .ok (.lreturn, 1) := by decide +kernel
theorem m190 : pm_m 190 = some (⟨"TypeRules$Statements", "times", "(JJJ)J"⟩, prog_8_method_12_code, 6, (some FieldType.long), 9, 3, 0) := rfl
theorem d189_0 : decode prog_8_method_11_code 0 = .ok (.iload_n 1, 1) := by decide +kernel
theorem d189_1 : decode prog_8_method_11_code 1 = .ok (.iconst 1, 1) := by decide +kernel
theorem d189_2 : decode prog_8_method_11_code 2 = .ok (.iadd, 1) := by decide +kernel
theorem d189_3 : decode prog_8_method_11_code 3 = .ok (.istore_n 3, 1) := by decide +kernel
theorem d189_4 : decode prog_8_method_11_code 4 = .ok (.aload_n 0, 1) := by decide +kernel
theorem d189_5 : decode prog_8_method_11_code 5 = .ok (.getfield 9, 3) := by decide +kernel
theorem d189_8 : decode prog_8_method_11_code 8 = .ok (.iload_n 1, 1) := by decide +kernel
theorem d189_9 : decode prog_8_method_11_code 9 = .ok (.invokevirtual 98, 3) := by decide +kernel
theorem d189_12 : decode prog_8_method_11_code 12 = .ok (.istore 4, 2) := by decide +kernel
theorem d189_14 : decode prog_8_method_11_code 14 = .ok (.iload_n 3, 1) := by decide +kernel
theorem d189_15 : decode prog_8_method_11_code 15 = .ok (.iload 4, 2) := by decide +kernel
theorem d189_17 : decode prog_8_method_11_code 17 = .ok (.if_icmp .ge 52, 3) := by decide +kernel
theorem d189_20 : decode prog_8_method_11_code 20 = .ok (.aload_n 0, 1) := by decide +kernel
theorem d189_21 : decode prog_8_method_11_code 21 = .ok (.getfield 9, 3) := by decide +kernel
theorem d189_24 : decode prog_8_method_11_code 24 = .ok (.iload_n 3, 1) := by decide +kernel
theorem d189_25 : decode prog_8_method_11_code 25 = .ok (.invokevirtual 28, 3) := by decide +kernel
theorem d189_28 : decode prog_8_method_11_code 28 = .ok (.bipush 11, 2) := by decide +kernel
theorem d189_30 : decode prog_8_method_11_code 30 = .ok (.if_icmp .eq 39, 3) := by decide +kernel
theorem d189_33 : decode prog_8_method_11_code 33 = .ok (.aload_n 0, 1) := by decide +kernel
theorem d189_34 : decode prog_8_method_11_code 34 = .ok (.getfield 9, 3) := by decide +kernel
theorem d189_37 : decode prog_8_method_11_code 37 = .ok (.iload_n 3, 1) := by decide +kernel
theorem d189_38 : decode prog_8_method_11_code 38 = .ok (.invokevirtual 28, 3) := by decide +kernel
theorem d189_41 : decode prog_8_method_11_code 41 = .ok (.bipush 31, 2) := by decide +kernel
theorem d189_43 : decode prog_8_method_11_code 43 = .ok (.if_icmp .eq 18, 3) := by decide +kernel
theorem d189_46 : decode prog_8_method_11_code 46 = .ok (.aload_n 0, 1) := by decide +kernel
theorem d189_47 : decode prog_8_method_11_code 47 = .ok (.getfield 9, 3) := by decide +kernel
theorem d189_50 : decode prog_8_method_11_code 50 = .ok (.iload_n 3, 1) := by decide +kernel
theorem d189_51 : decode prog_8_method_11_code 51 = .ok (.invokevirtual 92, 3) := by decide +kernel
theorem d189_54 : decode prog_8_method_11_code 54 = .ok (.iload_n 2, 1) := by decide +kernel
theorem d189_55 : decode prog_8_method_11_code 55 = .ok (.invokestatic 132, 3) := by decide +kernel
theorem d189_58 : decode prog_8_method_11_code 58 = .ok (.ifCond .ne 5, 3) := by decide +kernel
theorem d189_61 : decode prog_8_method_11_code 61 = .ok (.iconst 0, 1) := by decide +kernel
theorem d189_62 : decode prog_8_method_11_code 62 = .ok (.ireturn, 1) := by decide +kernel
theorem d189_63 : decode prog_8_method_11_code 63 = .ok (.iinc 3 1, 3) := by decide +kernel
theorem d189_66 : decode prog_8_method_11_code 66 = .ok (.goto (-52), 3) := by decide +kernel
theorem d189_69 : decode prog_8_method_11_code 69 = .ok (.iload_n 3, 1) := by decide +kernel
theorem d189_70 : decode prog_8_method_11_code 70 = .ok (.iload_n 1, 1) := by decide +kernel
theorem d189_71 : decode prog_8_method_11_code 71 = .ok (.isub, 1) := by decide +kernel
theorem d189_72 : decode prog_8_method_11_code 72 = .ok (.iconst 3, 1) := by decide +kernel
theorem d189_73 : decode prog_8_method_11_code 73 = .ok (.if_icmp .le 16, 3) := by decide +kernel
theorem d189_76 : decode prog_8_method_11_code 76 = .ok (.aload_n 0, 1) := by decide +kernel
theorem d189_77 : decode prog_8_method_11_code 77 = .ok (.getfield 9, 3) := by decide +kernel
theorem d189_80 : decode prog_8_method_11_code 80 = .ok (.iload_n 1, 1) := by decide +kernel
theorem d189_81 : decode prog_8_method_11_code 81 = .ok (.iconst 3, 1) := by decide +kernel
theorem d189_82 : decode prog_8_method_11_code 82 = .ok (.iadd, 1) := by decide +kernel
theorem d189_83 : decode prog_8_method_11_code 83 = .ok (.invokevirtual 92, 3) := by decide +kernel
theorem d189_86 : decode prog_8_method_11_code 86 = .ok (.goto 4, 3) := by decide +kernel
theorem d189_89 : decode prog_8_method_11_code 89 = .ok (.iconst 1, 1) := by decide +kernel
theorem d189_90 : decode prog_8_method_11_code 90 = .ok (.istore 5, 2) := by decide +kernel
theorem d189_92 : decode prog_8_method_11_code 92 = .ok (.iload 5, 2) := by decide +kernel
theorem d189_94 : decode prog_8_method_11_code 94 = .ok (.ifCond .eq 42, 3) := by decide +kernel
theorem d189_97 : decode prog_8_method_11_code 97 = .ok (.aload_n 0, 1) := by decide +kernel
theorem d189_98 : decode prog_8_method_11_code 98 = .ok (.getfield 9, 3) := by decide +kernel
theorem d189_101 : decode prog_8_method_11_code 101 = .ok (.iload_n 1, 1) := by decide +kernel
theorem d189_102 : decode prog_8_method_11_code 102 = .ok (.iconst 1, 1) := by decide +kernel
theorem d189_103 : decode prog_8_method_11_code 103 = .ok (.iadd, 1) := by decide +kernel
theorem d189_104 : decode prog_8_method_11_code 104 = .ok (.invokevirtual 92, 3) := by decide +kernel
theorem d189_107 : decode prog_8_method_11_code 107 = .ok (.i2l, 1) := by decide +kernel
theorem d189_108 : decode prog_8_method_11_code 108 = .ok (.aload_n 0, 1) := by decide +kernel
theorem d189_109 : decode prog_8_method_11_code 109 = .ok (.getfield 9, 3) := by decide +kernel
theorem d189_112 : decode prog_8_method_11_code 112 = .ok (.iload_n 1, 1) := by decide +kernel
theorem d189_113 : decode prog_8_method_11_code 113 = .ok (.iconst 2, 1) := by decide +kernel
theorem d189_114 : decode prog_8_method_11_code 114 = .ok (.iadd, 1) := by decide +kernel
theorem d189_115 : decode prog_8_method_11_code 115 = .ok (.invokevirtual 92, 3) := by decide +kernel
theorem d189_118 : decode prog_8_method_11_code 118 = .ok (.i2l, 1) := by decide +kernel
theorem d189_119 : decode prog_8_method_11_code 119 = .ok (.iload 5, 2) := by decide +kernel
theorem d189_121 : decode prog_8_method_11_code 121 = .ok (.i2l, 1) := by decide +kernel
theorem d189_122 : decode prog_8_method_11_code 122 = .ok (.invokestatic 135, 3) := by decide +kernel
theorem d189_125 : decode prog_8_method_11_code 125 = .ok (.ldc2_w 139, 3) := by decide +kernel
theorem d189_128 : decode prog_8_method_11_code 128 = .ok (.lcmp, 1) := by decide +kernel
theorem d189_129 : decode prog_8_method_11_code 129 = .ok (.ifCond .gt 7, 3) := by decide +kernel
theorem d189_132 : decode prog_8_method_11_code 132 = .ok (.iconst 1, 1) := by decide +kernel
theorem d189_133 : decode prog_8_method_11_code 133 = .ok (.goto 4, 3) := by decide +kernel
theorem d189_136 : decode prog_8_method_11_code 136 = .ok (.iconst 0, 1) := by decide +kernel
theorem d189_137 : decode prog_8_method_11_code 137 = .ok (.ireturn, 1) := by decide +kernel
theorem m189 : pm_m 189 = some (⟨"TypeRules$Statements", "areLoopConstants", "(II)Z"⟩, prog_8_method_11_code, 6, (some FieldType.boolean), 9, 2, 10) := rfl
theorem d188_0 : decode prog_8_method_10_code 0 = .ok (.aload_n 0, 1) := by decide +kernel
theorem d188_1 : decode prog_8_method_10_code 1 = .ok (.getfield 9, 3) := by decide +kernel
theorem d188_4 : decode prog_8_method_10_code 4 = .ok (.iload_n 1, 1) := by decide +kernel
theorem d188_5 : decode prog_8_method_10_code 5 = .ok (.invokevirtual 92, 3) := by decide +kernel
theorem d188_8 : decode prog_8_method_10_code 8 = .ok (.istore_n 2, 1) := by decide +kernel
theorem d188_9 : decode prog_8_method_10_code 9 = .ok (.aload_n 0, 1) := by decide +kernel
theorem d188_10 : decode prog_8_method_10_code 10 = .ok (.iload_n 2, 1) := by decide +kernel
theorem d188_11 : decode prog_8_method_10_code 11 = .ok (.invokevirtual 87, 3) := by decide +kernel
theorem d188_14 : decode prog_8_method_10_code 14 = .ok (.istore_n 3, 1) := by decide +kernel
theorem d188_15 : decode prog_8_method_10_code 15 = .ok (.iload_n 3, 1) := by decide +kernel
theorem d188_16 : decode prog_8_method_10_code 16 = .ok (.iconst (-1), 1) := by decide +kernel
theorem d188_17 : decode prog_8_method_10_code 17 = .ok (.if_icmp .ne 6, 3) := by decide +kernel
theorem d188_20 : decode prog_8_method_10_code 20 = .ok (.bipush 20, 2) := by decide +kernel
theorem d188_22 : decode prog_8_method_10_code 22 = .ok (.ireturn, 1) := by decide +kernel
theorem d188_23 : decode prog_8_method_10_code 23 = .ok (.aload_n 0, 1) := by decide +kernel
theorem d188_24 : decode prog_8_method_10_code 24 = .ok (.getfield 25, 3) := by decide +kernel
theorem d188_27 : decode prog_8_method_10_code 27 = .ok (.iload_n 3, 1) := by decide +kernel
theorem d188_28 : decode prog_8_method_10_code 28 = .ok (.invokevirtual 104, 3) := by decide +kernel
theorem d188_31 : decode prog_8_method_10_code 31 = .ok (.bipush 8, 2) := by decide +kernel
theorem d188_33 : decode prog_8_method_10_code 33 = .ok (.if_icmp .eq 6, 3) := by decide +kernel
theorem d188_36 : decode prog_8_method_10_code 36 = .ok (.bipush 21, 2) := by decide +kernel
theorem d188_38 : decode prog_8_method_10_code 38 = .ok (.ireturn, 1) := by decide +kernel
theorem d188_39 : decode prog_8_method_10_code 39 = .ok (.aload_n 0, 1) := by decide +kernel
theorem d188_40 : decode prog_8_method_10_code 40 = .ok (.getfield 25, 3) := by decide +kernel
theorem d188_43 : decode prog_8_method_10_code 43 = .ok (.iload_n 3, 1) := by decide +kernel
theorem d188_44 : decode prog_8_method_10_code 44 = .ok (.invokevirtual 109, 3) := by decide +kernel
theorem d188_47 : decode prog_8_method_10_code 47 = .ok (.istore 4, 2) := by decide +kernel
theorem d188_49 : decode prog_8_method_10_code 49 = .ok (.iload 4, 2) := by decide +kernel
theorem d188_51 : decode prog_8_method_10_code 51 = .ok (.invokestatic 49, 3) := by decide +kernel
theorem d188_54 : decode prog_8_method_10_code 54 = .ok (.ifCond .ne 6, 3) := by decide +kernel
theorem d188_57 : decode prog_8_method_10_code 57 = .ok (.bipush 22, 2) := by decide +kernel
theorem d188_59 : decode prog_8_method_10_code 59 = .ok (.ireturn, 1) := by decide +kernel
theorem d188_60 : decode prog_8_method_10_code 60 = .ok (.aload_n 0, 1) := by decide +kernel
theorem d188_61 : decode prog_8_method_10_code 61 = .ok (.iload_n 1, 1) := by decide +kernel
theorem d188_62 : decode prog_8_method_10_code 62 = .ok (.iload_n 2, 1) := by decide +kernel
theorem d188_63 : decode prog_8_method_10_code 63 = .ok (.invokevirtual 95, 3) := by decide +kernel
theorem d188_66 : decode prog_8_method_10_code 66 = .ok (.istore 5, 2) := by decide +kernel
theorem d188_68 : decode prog_8_method_10_code 68 = .ok (.iload 5, 2) := by decide +kernel
theorem d188_70 : decode prog_8_method_10_code 70 = .ok (.ifCond .eq 6, 3) := by decide +kernel
theorem d188_73 : decode prog_8_method_10_code 73 = .ok (.iload 5, 2) := by decide +kernel
theorem d188_75 : decode prog_8_method_10_code 75 = .ok (.ireturn, 1) := by decide +kernel
theorem d188_76 : decode prog_8_method_10_code 76 = .ok (.aload_n 0, 1) := by decide +kernel
theorem d188_77 : decode prog_8_method_10_code 77 = .ok (.getfield 9, 3) := by decide +kernel
theorem d188_80 : decode prog_8_method_10_code 80 = .ok (.iload_n 1, 1) := by decide +kernel
theorem d188_81 : decode prog_8_method_10_code 81 = .ok (.aload_n 0, 1) := by decide +kernel
theorem d188_82 : decode prog_8_method_10_code 82 = .ok (.getfield 25, 3) := by decide +kernel
theorem d188_85 : decode prog_8_method_10_code 85 = .ok (.iload_n 3, 1) := by decide +kernel
theorem d188_86 : decode prog_8_method_10_code 86 = .ok (.invokevirtual 112, 3) := by decide +kernel
theorem d188_89 : decode prog_8_method_10_code 89 = .ok (.invokevirtual 115, 3) := by decide +kernel
theorem d188_92 : decode prog_8_method_10_code 92 = .ok (.aload_n 0, 1) := by decide +kernel
theorem d188_93 : decode prog_8_method_10_code 93 = .ok (.iload_n 1, 1) := by decide +kernel
theorem d188_94 : decode prog_8_method_10_code 94 = .ok (.iload 4, 2) := by decide +kernel
theorem d188_96 : decode prog_8_method_10_code 96 = .ok (.invokevirtual 129, 3) := by decide +kernel
theorem d188_99 : decode prog_8_method_10_code 99 = .ok (.ifCond .eq 7, 3) := by decide +kernel
theorem d188_102 : decode prog_8_method_10_code 102 = .ok (.iconst 0, 1) := by decide +kernel
theorem d188_103 : decode prog_8_method_10_code 103 = .ok (.goto 5, 3) := by decide +kernel
theorem d188_106 : decode prog_8_method_10_code 106 = .ok (.bipush 36, 2) := by decide +kernel
theorem d188_108 : decode prog_8_method_10_code 108 = .ok (.ireturn, 1) := by decide +kernel
theorem m188 : pm_m 188 = some (⟨"TypeRules$Statements", "forFault", "(I)I"⟩, prog_8_method_10_code, 6, (some FieldType.int), 9, 1, 10) := rfl
theorem lc_ge (x y : Int64) : 0 ≤ lg_cmp x y ↔ y.toInt ≤ x.toInt := by
  rw [← Int32.not_lt, lc_lt, Int.not_lt]
/-! LOOPS of the class -/
def lg_31 (x : Int) : Prop := -2147483648 ≤ x ∧ x ≤ 2147483647
theorem lg_qu {a b s : Int} (ha : lg_31 a) (hb : lg_31 b) : -4294967295 ≤ Int.tdiv (b - a) s ∧ Int.tdiv (b - a) s ≤ 4294967295 := by
  have h : ((b - a).tdiv s).natAbs ≤ (b - a).natAbs := by rw [Int.natAbs_tdiv]; exact Nat.div_le_self _ _
  unfold lg_31 at *
  omega
theorem sp190 {d : Nat} {σ : pm_S} {Q : Option Value → pm_S → Prop} {a b s : Int64} (ha : lg_31 a.toInt) (hb : lg_31 b.toInt) (hs : lg_31 s.toInt) (hQ : ∀ r : Int64, r.toInt = rl_tim a.toInt b.toInt s.toInt → Q (some (.long r)) σ) : pm_call pm_Y0 (d + 1) 190 [.long a, .long b, .long s] σ Q := by
  have z0 : (Int64.ofNat ((0 : Fin 2) : Nat)).toInt = 0 := by decide
  have h0 : (s.toInt = 0 ∨ (0 < s.toInt ∧ b.toInt < a.toInt) ∨ (s.toInt < 0 ∧ a.toInt < b.toInt)) → Q (some (.long 0)) σ := fun z => hQ 0 (by unfold rl_tim; rw [if_pos z]; decide)
  have h1 : ¬ (s.toInt = 0 ∨ (0 < s.toInt ∧ b.toInt < a.toInt) ∨ (s.toInt < 0 ∧ a.toInt < b.toInt)) → Q (some (.long ((b - a) / s + 1))) σ := fun z => hQ _ (by
    unfold rl_tim
    rw [if_neg z]
    have q := lg_qu (s := s.toInt) ha hb
    have e1 : (b - a).toInt = b.toInt - a.toInt := by
      rw [Int64.toInt_sub, Int.bmod_eq_of_le] <;> (unfold lg_31 at *; omega)
    rw [Int64.toInt_add, Int64.toInt_div, e1, show (1 : Int64).toInt = 1 by decide, Int.bmod_eq_of_le (n := Int.tdiv _ _) (by omega) (by omega), Int.bmod_eq_of_le (by omega) (by omega)])
  clear hQ
  refine wq_m m190 (Nat.le_of_ble_eq_true rfl) (by decide) rfl ?_
  refine wq_l 2 d190_0 rfl rfl rfl rfl ?_
  refine wq_a 3 d190_2 rfl rfl ?_
  refine wq_a 4 d190_3 rfl rfl ?_
  refine wq_b 33 7 d190_4 rfl (by decide) rfl (fun c4 => ?_) (fun c4 => ?_)
  · -- pc 33
    refine wq_a 34 d190_33 rfl rfl ?_
    refine wq_rl d190_34 ?_
    refine h0 ?_
    clear h0 h1
    simp only [lc_eq, lc_le, lc_gt, lc_lt, lc_ge, z0] at c4
    omega
  · -- pc 7
    refine wq_l 9 d190_7 rfl rfl rfl rfl ?_
    refine wq_a 10 d190_9 rfl rfl ?_
    refine wq_a 11 d190_10 rfl rfl ?_
    refine wq_b 20 14 d190_11 rfl (by decide) rfl (fun c11 => ?_) (fun c11 => ?_)
    · -- pc 20
      refine wq_l 22 d190_20 rfl rfl rfl rfl ?_
      refine wq_a 23 d190_22 rfl rfl ?_
      refine wq_a 24 d190_23 rfl rfl ?_
      refine wq_b 35 27 d190_24 rfl (by decide) rfl (fun c24 => ?_) (fun c24 => ?_)
      · -- pc 35
        refine wq_l 36 d190_35 rfl rfl rfl rfl ?_
        refine wq_l 37 d190_36 rfl rfl rfl rfl ?_
        refine wq_a 38 d190_37 rfl rfl ?_
        refine wq_l 40 d190_38 rfl rfl rfl rfl ?_
        refine wq_dv 41 d190_40 rfl rfl (fun z => c4 ((lc_eq _ _).mpr (by rw [z]; rfl))) ?_
        refine wq_a 42 d190_41 rfl rfl ?_
        refine wq_a 43 d190_42 rfl rfl ?_
        refine wq_rl d190_43 ?_
        refine h1 ?_
        clear h0 h1
        simp only [lc_eq, lc_le, lc_gt, lc_lt, lc_ge, z0] at c4 c4 c11 c24
        omega
      · -- pc 27
        refine wq_l 28 d190_27 rfl rfl rfl rfl ?_
        refine wq_l 29 d190_28 rfl rfl rfl rfl ?_
        refine wq_a 30 d190_29 rfl rfl ?_
        refine wq_b 35 33 d190_30 rfl (by decide) rfl (fun c30 => ?_) (fun c30 => ?_)
        · -- pc 35
          refine wq_l 36 d190_35 rfl rfl rfl rfl ?_
          refine wq_l 37 d190_36 rfl rfl rfl rfl ?_
          refine wq_a 38 d190_37 rfl rfl ?_
          refine wq_l 40 d190_38 rfl rfl rfl rfl ?_
          refine wq_dv 41 d190_40 rfl rfl (fun z => c4 ((lc_eq _ _).mpr (by rw [z]; rfl))) ?_
          refine wq_a 42 d190_41 rfl rfl ?_
          refine wq_a 43 d190_42 rfl rfl ?_
          refine wq_rl d190_43 ?_
          refine h1 ?_
          clear h0 h1
          simp only [lc_eq, lc_le, lc_gt, lc_lt, lc_ge, z0] at c4 c4 c11 c24 c24 c30
          omega
        · -- pc 33
          refine wq_a 34 d190_33 rfl rfl ?_
          refine wq_rl d190_34 ?_
          refine h0 ?_
          clear h0 h1
          simp only [lc_eq, lc_le, lc_gt, lc_lt, lc_ge, z0] at c4 c4 c11 c24 c24 c30 c30
          omega
    · -- pc 14
      refine wq_l 15 d190_14 rfl rfl rfl rfl ?_
      refine wq_l 16 d190_15 rfl rfl rfl rfl ?_
      refine wq_a 17 d190_16 rfl rfl ?_
      refine wq_b 33 20 d190_17 rfl (by decide) rfl (fun c17 => ?_) (fun c17 => ?_)
      · -- pc 33
        refine wq_a 34 d190_33 rfl rfl ?_
        refine wq_rl d190_34 ?_
        refine h0 ?_
        clear h0 h1
        simp only [lc_eq, lc_le, lc_gt, lc_lt, lc_ge, z0] at c4 c4 c11 c11 c17
        omega
      · -- pc 20
        refine wq_l 22 d190_20 rfl rfl rfl rfl ?_
        refine wq_a 23 d190_22 rfl rfl ?_
        refine wq_a 24 d190_23 rfl rfl ?_
        refine wq_b 35 27 d190_24 rfl (by decide) rfl (fun c24 => ?_) (fun c24 => ?_)
        · -- pc 35
          refine wq_l 36 d190_35 rfl rfl rfl rfl ?_
          refine wq_l 37 d190_36 rfl rfl rfl rfl ?_
          refine wq_a 38 d190_37 rfl rfl ?_
          refine wq_l 40 d190_38 rfl rfl rfl rfl ?_
          refine wq_dv 41 d190_40 rfl rfl (fun z => c4 ((lc_eq _ _).mpr (by rw [z]; rfl))) ?_
          refine wq_a 42 d190_41 rfl rfl ?_
          refine wq_a 43 d190_42 rfl rfl ?_
          refine wq_rl d190_43 ?_
          refine h1 ?_
          clear h0 h1
          simp only [lc_eq, lc_le, lc_gt, lc_lt, lc_ge, z0] at c4 c4 c11 c11 c17 c17 c24
          omega
        · -- pc 27
          refine wq_l 28 d190_27 rfl rfl rfl rfl ?_
          refine wq_l 29 d190_28 rfl rfl rfl rfl ?_
          refine wq_a 30 d190_29 rfl rfl ?_
          refine wq_b 35 33 d190_30 rfl (by decide) rfl (fun c30 => ?_) (fun c30 => ?_)
          · -- pc 35
            refine wq_l 36 d190_35 rfl rfl rfl rfl ?_
            refine wq_l 37 d190_36 rfl rfl rfl rfl ?_
            refine wq_a 38 d190_37 rfl rfl ?_
            refine wq_l 40 d190_38 rfl rfl rfl rfl ?_
            refine wq_dv 41 d190_40 rfl rfl (fun z => c4 ((lc_eq _ _).mpr (by rw [z]; rfl))) ?_
            refine wq_a 42 d190_41 rfl rfl ?_
            refine wq_a 43 d190_42 rfl rfl ?_
            refine wq_rl d190_43 ?_
            refine h1 ?_
            clear h0 h1
            simp only [lc_eq, lc_le, lc_gt, lc_lt, lc_ge, z0] at c4 c4 c11 c11 c17 c17 c24 c24 c30
            omega
          · -- pc 33
            refine wq_a 34 d190_33 rfl rfl ?_
            refine wq_rl d190_34 ?_
            refine h0 ?_
            clear h0 h1
            simp only [lc_eq, lc_le, lc_gt, lc_lt, lc_ge, z0] at c4 c4 c11 c11 c17 c17 c24 c24 c30 c30
            omega
theorem lg_32 (x : Int32) : lg_31 x.toInt64.toInt ∧ x.toInt64.toInt = x.toInt := by
  have e : x.toInt64.toInt = x.toInt := Int32.toInt_toInt64 x
  rw [e]
  have h1 := x.le_toInt
  have h2 := x.toInt_lt
  unfold lg_31
  exact ⟨⟨by omega, by omega⟩, rfl⟩
/-- the constants of a loop -/
theorem lg_19 {l : List pg_N} {NN i : Nat} (hG : lg_G l NN) (hi : i < l.length) (hk : rl_k l i = 19) : ∃ m, (m = 2 ∨ m = 3) ∧ (∀ j, i < j → j ≤ i + m → rl_k l j = 30 ∨ rl_k l j = 31) ∧ rl_k l (i + 1 + m) = 11 ∧ i + 1 + m < i + rl_z l i ∧ rl_c l i = (if m = 2 then [i + 1, i + 2, i + 3] else [i + 1, i + 2, i + 3, i + 4]) := by
  obtain ⟨z1, z2, z3⟩ := lg_cl hG hi
  have h := lg_S hG hi
  rw [hk] at h
  obtain ⟨a, b, u, e, ha, hb, hu⟩ : ∃ a b i', (rl_c l i).map (rl_k l) = a :: b :: (i' ++ [11]) ∧ sh_K a ∧ sh_K b ∧ (i' = [] ∨ ∃ e, sh_K e ∧ i' = [e]) := h
  obtain ⟨a1, a2, a3, a4, a5, a6, a7⟩ := rl_rwc z1 z3 e
  have q1 : rl_z l (i + 1) = 1 := lg_leaf hG (by omega) (by unfold sh_K at ha; omega)
  rw [q1] at a3 a4 a5 a6 a7
  obtain ⟨b1, b2, b3, b4, b5, b6, b7⟩ := rl_rwc z1 a7 a4
  have q2 : rl_z l (i + 1 + 1) = 1 := lg_leaf hG (by omega) (by unfold sh_K at hb; omega)
  rw [q2] at b3 b4 b5 b6 b7
  unfold sh_K at ha hb
  rcases hu with hu | ⟨e', he', hu⟩
  · rw [hu, List.nil_append] at b4
    obtain ⟨c1, c2, c3, c4, c5, c6, c7⟩ := rl_rwc z1 b7 b4
    refine ⟨2, Or.inl rfl, fun j h1 h2 => ?_, c2, c1, ?_⟩
    · have : j = i + 1 ∨ j = i + 1 + 1 := by omega
      rcases this with w | w
      · rw [w]; omega
      · rw [w]; omega
    · rw [if_pos rfl, rl_crow, a3, b3, c3, List.map_eq_nil_iff.mp c4]
  · rw [hu, List.singleton_append] at b4
    obtain ⟨c1, c2, c3, c4, c5, c6, c7⟩ := rl_rwc z1 b7 b4
    have q3 : rl_z l (i + 1 + 1 + 1) = 1 := lg_leaf hG (by omega) (by unfold sh_K at he'; omega)
    rw [q3] at c3 c4 c5 c6 c7
    obtain ⟨d1, d2, d3, d4, d5, d6, d7⟩ := rl_rwc z1 c7 c4
    unfold sh_K at he'
    refine ⟨3, Or.inr rfl, fun j h1 h2 => ?_, d2, d1, ?_⟩
    · have : j = i + 1 ∨ j = i + 1 + 1 ∨ j = i + 1 + 1 + 1 := by omega
      rcases this with w | w | w
      · rw [w]; omega
      · rw [w]; omega
      · rw [w]; omega
    · rw [if_neg (by decide), rl_crow, a3, b3, c3, d3, List.map_eq_nil_iff.mp d4]
theorem cr189l {d : Nat} {l : List pg_N} {NN nx : Nat} {σ0 σ : pm_S} {A : rl_A} {Q : Option Value → pm_S → Prop} {i e mm : Nat} {t : Int32} {w5 : Value} (hG : lg_G l NN) (h : cr_I l NN σ0 σ nx A) (ht : t = 1 ∨ t = 2) (hme : mm < e) (he : e ≤ l.length) (hk : rl_k l mm = 11) (hb : (∃ j, i < j ∧ j < mm ∧ rl_bad (rl_k l j) (rl_v l j) t = true) → Q (some (.int 0)) σ) (hg : (∀ j, i < j → j < mm → rl_bad (rl_k l j) (rl_v l j) t = false) → pm_WP pm_Y0 (pm_call pm_Y0 (d + 1)) 9 prog_8_method_11_code (some FieldType.boolean) Q 69 [.ref 9, .int (nI i), .int t, .int (nI mm), .int (nI e), w5] [] σ) : ∀ (n c : Nat), mm - c ≤ n → c ≤ mm → i < c → (∀ j, c ≤ j → j < mm → rl_k l j = 30 ∨ rl_k l j = 31) → (∀ j, i < j → j < c → rl_bad (rl_k l j) (rl_v l j) t = false) → pm_WP pm_Y0 (pm_call pm_Y0 (d + 1)) 9 prog_8_method_11_code (some FieldType.boolean) Q 14 [.ref 9, .int (nI i), .int t, .int (nI c), .int (nI e), w5] [] σ := by
  have hl := h.2.1.1
  have ee := nI_toInt (n := e) (by omega)
  have t0 : ¬ t = 0 := by rcases ht with q | q <;> (rw [q]; decide)
  intro n
  induction n with
  | zero =>
    intro c hn hcm hic h1 h2
    have : c = mm := by omega
    subst this
    have ec := nI_toInt (n := c) (by omega)
    refine wq_l 15 d189_14 rfl rfl rfl rfl ?_
    refine wq_l 17 d189_15 rfl rfl rfl rfl ?_
    refine wq_b 69 20 d189_17 rfl (by decide) rfl (fun c17 => absurd c17 (by rw [i_le, ee, ec]; omega)) (fun c17 => ?_)
    refine wq_l 21 d189_20 rfl rfl rfl rfl ?_
    refine wq_gr (ci := 9) (j := 0) (q := 3) 24 d189_21 rfl rfl rfl rfl ?_
    refine wq_l 25 d189_24 rfl rfl rfl rfl ?_
    refine wq_v 28 [_] d189_25 rfl rfl m65 rfl rfl (Nat.le_of_ble_eq_true rfl) rfl (ck65 (cr_S h) (by omega) ?_)
    rw [hk]
    refine wq_k 30 11 d189_28 (by decide) rfl ?_
    refine wq_b 69 33 d189_30 rfl (by decide) rfl (fun c30 => ?_) (fun c30 => absurd (rfl) c30)
    exact hg h2
  | succ n ih =>
    intro c hn hcm hic h1 h2
    have ec := nI_toInt (n := c) (by omega)
    by_cases q : c < mm
    · have kc := h1 c (Nat.le_refl _) q
      have hbad : rl_bad (rl_k l c) (rl_v l c) t = (decide (rl_k l c = 31) || decide (t = 1 ∧ ((rl_v l c).toInt < -32768 ∨ 32767 < (rl_v l c).toInt))) := by
        unfold rl_bad
        rw [decide_eq_false t0]
        cases decide (rl_k l c = 31) <;> rfl
      refine wq_l 15 d189_14 rfl rfl rfl rfl ?_
      refine wq_l 17 d189_15 rfl rfl rfl rfl ?_
      refine wq_b 69 20 d189_17 rfl (by decide) rfl (fun c17 => absurd c17 (by rw [i_le, ee, ec]; omega)) (fun c17 => ?_)
      refine wq_l 21 d189_20 rfl rfl rfl rfl ?_
      refine wq_gr (ci := 9) (j := 0) (q := 3) 24 d189_21 rfl rfl rfl rfl ?_
      refine wq_l 25 d189_24 rfl rfl rfl rfl ?_
      refine wq_v 28 [_] d189_25 rfl rfl m65 rfl rfl (Nat.le_of_ble_eq_true rfl) rfl (ck65 (cr_S h) (by omega) ?_)
      refine wq_k 30 11 d189_28 (by decide) rfl ?_
      refine wq_b 69 33 d189_30 rfl (by decide) rfl (fun c30 => absurd c30 (fun z => by have := hp_inj (b := 11) (by omega) (by decide) z; omega)) (fun c30 => ?_)
      refine wq_l 34 d189_33 rfl rfl rfl rfl ?_
      refine wq_gr (ci := 9) (j := 0) (q := 3) 37 d189_34 rfl rfl rfl rfl ?_
      refine wq_l 38 d189_37 rfl rfl rfl rfl ?_
      refine wq_v 41 [_] d189_38 rfl rfl m65 rfl rfl (Nat.le_of_ble_eq_true rfl) rfl (ck65 (cr_S h) (by omega) ?_)
      refine wq_k 43 31 d189_41 (by decide) rfl ?_
      refine wq_b 61 46 d189_43 rfl (by decide) rfl (fun c43 => ?_) (fun c43 => ?_)
      · -- pc 61
        refine wq_k 62 0 d189_61 (by decide) rfl ?_
        refine wq_ri d189_62 (rfl) ?_
        exact hb ⟨c, hic, q, by rw [hbad, decide_eq_true (show rl_k l c = 31 from hp_inj (by omega) (by decide) c43), Bool.true_or]⟩
      · -- pc 46
        refine wq_l 47 d189_46 rfl rfl rfl rfl ?_
        refine wq_gr (ci := 9) (j := 0) (q := 3) 50 d189_47 rfl rfl rfl rfl ?_
        refine wq_l 51 d189_50 rfl rfl rfl rfl ?_
        refine wq_v 54 [_] d189_51 rfl rfl m66 rfl rfl (Nat.le_of_ble_eq_true rfl) rfl (ck66 (cr_S h) (by omega) ?_)
        refine wq_l 55 d189_54 rfl rfl rfl rfl ?_
        refine wq_vs 58 [_, _] d189_55 rfl rfl m164 rfl (Nat.le_of_ble_eq_true rfl) rfl (sp164 ?_)
        refine wq_b 63 61 d189_58 rfl (by decide) rfl (fun c58 => ?_) (fun c58 => ?_)
        · -- pc 63
          have f58 := b2n c58
          refine wq_i 66 d189_63 rfl rfl rfl ?_
          refine wq_g 14 d189_66 (by decide) ?_
          rw [show nI c + Int32.ofInt 1 = nI (c + 1) from nI_1 c]
          refine ih (c + 1) (by omega) (by omega) (by omega) (fun j a b => h1 j (by omega) b) (fun j a b => ?_)
          by_cases w : j = c
          · rw [w, hbad, decide_eq_false (fun z => c43 (congrArg nI z)), decide_eq_false (of_decide_eq_true f58), Bool.or_self]
          · exact h2 j a (by omega)
        · -- pc 61
          have f58 := b2y c58
          refine wq_k 62 0 d189_61 (by decide) rfl ?_
          refine wq_ri d189_62 (rfl) ?_
          exact hb ⟨c, hic, q, by rw [hbad, decide_eq_true (Classical.not_not.mp (of_decide_eq_false f58)), Bool.or_true]⟩
    · have : c = mm := by omega
      subst this
      refine wq_l 15 d189_14 rfl rfl rfl rfl ?_
      refine wq_l 17 d189_15 rfl rfl rfl rfl ?_
      refine wq_b 69 20 d189_17 rfl (by decide) rfl (fun c17 => absurd c17 (by rw [i_le, ee, ec]; omega)) (fun c17 => ?_)
      refine wq_l 21 d189_20 rfl rfl rfl rfl ?_
      refine wq_gr (ci := 9) (j := 0) (q := 3) 24 d189_21 rfl rfl rfl rfl ?_
      refine wq_l 25 d189_24 rfl rfl rfl rfl ?_
      refine wq_v 28 [_] d189_25 rfl rfl m65 rfl rfl (Nat.le_of_ble_eq_true rfl) rfl (ck65 (cr_S h) (by omega) ?_)
      rw [hk]
      refine wq_k 30 11 d189_28 (by decide) rfl ?_
      refine wq_b 69 33 d189_30 rfl (by decide) rfl (fun c30 => ?_) (fun c30 => absurd (rfl) c30)
      exact hg h2
