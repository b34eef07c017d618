/-! THE CLASS'S PARSER: constants, types, names -/
theorem b2z {b : Bool} (h : b2 b = 0) : b = false := by cases b; rfl; exact absurd h (by decide)
theorem b2n {b : Bool} (h : ¬ b2 b = 0) : b = true := by cases b; exact absurd rfl h; rfl
theorem b2y {b : Bool} (h : ¬ ¬ b2 b = 0) : b = false := b2z (Classical.not_not.mp h)
/-- a token of this kind stands here -/
theorem pg_isl {T : pg_T} {k : Nat} {c : pg_C} (h : pg_is T k c = true) (hk : k ≠ 44 ∧ k ≠ 45 ∧ k ≠ 46) : pg_live T c ∧ T.1 c.1 ≠ 44 := by
  obtain ⟨h0, h1⟩ := pg_kT (pg_isk h) hk.2.2
  exact ⟨⟨h0, by omega⟩, by omega⟩
theorem pg_kl {T : pg_T} {k : Nat} {c : pg_C} (h : pg_k T c = k) (hk : k ≠ 44 ∧ k ≠ 45 ∧ k ≠ 46) : pg_live T c ∧ T.1 c.1 ≠ 44 := by
  obtain ⟨h0, h1⟩ := pg_kT h hk.2.2
  exact ⟨⟨h0, by omega⟩, by omega⟩
theorem pg_isy {T : pg_T} {k : Nat} {c : pg_C} (h : pg_k T c = k) : pg_is T k c = true := by unfold pg_is; rw [h]; simp
theorem pg_isn {T : pg_T} {k j : Nat} {c : pg_C} (h : pg_k T c = k) (hj : k ≠ j) : pg_is T j c = false := by unfold pg_is; rw [h]; simpa using hj
theorem pg_any3 {T : pg_T} {c : pg_C} {ks : List Nat} {k : Nat} (h : pg_k T c = k) (hk : ks.contains k = true) : pg_any T ks c = true := by unfold pg_any; rw [h]; exact hk
theorem pg_anyn {T : pg_T} {c : pg_C} {ks : List Nat} (h : ∀ k ∈ ks, ¬ pg_k T c = k) : pg_any T ks c = false := by
  unfold pg_any
  rw [Bool.eq_false_iff]
  intro z
  exact h _ (by simpa using z) rfl
theorem pc_kq {T : pg_T} {n : Nat} {σ : pm_S} (hK : pc_K T n σ) {c : pg_C} {k : Nat} (hk : k < 100) : nI (pg_k T c) = nI k ↔ pg_k T c = k := nI_eq (by have := pg_kle hK c; omega) (by omega)
theorem d84_0 : decode prog_6_method_7_code 0 = .ok (.aload_n 0, 1) := by decide +kernel
theorem d84_1 : decode prog_6_method_7_code 1 = .ok (.getfield 15, 3) := by decide +kernel
theorem d84_4 : decode prog_6_method_7_code 4 = .ok (.bipush 6, 2) := by decide +kernel
theorem d84_6 : decode prog_6_method_7_code 6 = .ok (.aload_n 0, 1) := by decide +kernel
theorem d84_7 : decode prog_6_method_7_code 7 = .ok (.getfield 9, 3) := by decide +kernel
theorem d84_10 : decode prog_6_method_7_code 10 = .ok (.invokevirtual 65, 3) := by decide +kernel
theorem d84_13 : decode prog_6_method_7_code 13 = .ok (.aload_n 0, 1) := by decide +kernel
theorem d84_14 : decode prog_6_method_7_code 14 = .ok (.getfield 9, 3) := by decide +kernel
theorem d84_17 : decode prog_6_method_7_code 17 = .ok (.invokevirtual 71, 3) := by decide +kernel
theorem d84_20 : decode prog_6_method_7_code 20 = .ok (.invokevirtual 34, 3) := by decide +kernel
theorem d84_23 : decode prog_6_method_7_code 23 = .ok (.pop, 1) := by decide +kernel
theorem d84_24 : decode prog_6_method_7_code 24 = .ok (.aload_n 0, 1) := by decide +kernel
theorem d84_25 : decode prog_6_method_7_code 25 = .ok (.getfield 9, 3) := by decide +kernel
theorem d84_28 : decode prog_6_method_7_code 28 = .ok (.bipush 41, 2) := by decide +kernel
theorem d84_30 : decode prog_6_method_7_code 30 = .ok (.invokevirtual 78, 3) := by decide +kernel
theorem d84_33 : decode prog_6_method_7_code 33 = .ok (.return_, 1) := by decide +kernel
theorem m84 : pm_m 84 = some (⟨"TypeRules$Parser", "readName", "()V"⟩, prog_6_method_7_code, 1, none, 4, 0, 5) := rfl
theorem d81_0 : decode prog_6_method_8_code 0 = .ok (.aload_n 0, 1) := by decide +kernel
theorem d81_1 : decode prog_6_method_8_code 1 = .ok (.getfield 9, 3) := by decide +kernel
theorem d81_4 : decode prog_6_method_8_code 4 = .ok (.invokevirtual 58, 3) := by decide +kernel
theorem d81_7 : decode prog_6_method_8_code 7 = .ok (.istore_n 1, 1) := by decide +kernel
theorem d81_8 : decode prog_6_method_8_code 8 = .ok (.iload_n 1, 1) := by decide +kernel
theorem d81_9 : decode prog_6_method_8_code 9 = .ok (.bipush 11, 2) := by decide +kernel
theorem d81_11 : decode prog_6_method_8_code 11 = .ok (.if_icmp .eq 15, 3) := by decide +kernel
theorem d81_14 : decode prog_6_method_8_code 14 = .ok (.iload_n 1, 1) := by decide +kernel
theorem d81_15 : decode prog_6_method_8_code 15 = .ok (.bipush 12, 2) := by decide +kernel
theorem d81_17 : decode prog_6_method_8_code 17 = .ok (.if_icmp .eq 9, 3) := by decide +kernel
theorem d81_20 : decode prog_6_method_8_code 20 = .ok (.iload_n 1, 1) := by decide +kernel
theorem d81_21 : decode prog_6_method_8_code 21 = .ok (.bipush 13, 2) := by decide +kernel
theorem d81_23 : decode prog_6_method_8_code 23 = .ok (.if_icmp .ne 34, 3) := by decide +kernel
theorem d81_26 : decode prog_6_method_8_code 26 = .ok (.aload_n 0, 1) := by decide +kernel
theorem d81_27 : decode prog_6_method_8_code 27 = .ok (.getfield 15, 3) := by decide +kernel
theorem d81_30 : decode prog_6_method_8_code 30 = .ok (.bipush 8, 2) := by decide +kernel
theorem d81_32 : decode prog_6_method_8_code 32 = .ok (.aload_n 0, 1) := by decide +kernel
theorem d81_33 : decode prog_6_method_8_code 33 = .ok (.getfield 9, 3) := by decide +kernel
theorem d81_36 : decode prog_6_method_8_code 36 = .ok (.invokevirtual 65, 3) := by decide +kernel
theorem d81_39 : decode prog_6_method_8_code 39 = .ok (.iload_n 1, 1) := by decide +kernel
theorem d81_40 : decode prog_6_method_8_code 40 = .ok (.bipush 11, 2) := by decide +kernel
theorem d81_42 : decode prog_6_method_8_code 42 = .ok (.isub, 1) := by decide +kernel
theorem d81_43 : decode prog_6_method_8_code 43 = .ok (.invokevirtual 34, 3) := by decide +kernel
theorem d81_46 : decode prog_6_method_8_code 46 = .ok (.pop, 1) := by decide +kernel
theorem d81_47 : decode prog_6_method_8_code 47 = .ok (.aload_n 0, 1) := by decide +kernel
theorem d81_48 : decode prog_6_method_8_code 48 = .ok (.getfield 9, 3) := by decide +kernel
theorem d81_51 : decode prog_6_method_8_code 51 = .ok (.invokevirtual 68, 3) := by decide +kernel
theorem d81_54 : decode prog_6_method_8_code 54 = .ok (.goto 10, 3) := by decide +kernel
theorem d81_57 : decode prog_6_method_8_code 57 = .ok (.aload_n 0, 1) := by decide +kernel
theorem d81_58 : decode prog_6_method_8_code 58 = .ok (.getfield 9, 3) := by decide +kernel
theorem d81_61 : decode prog_6_method_8_code 61 = .ok (.invokevirtual 105, 3) := by decide +kernel
theorem d81_64 : decode prog_6_method_8_code 64 = .ok (.return_, 1) := by decide +kernel
theorem m81 : pm_m 81 = some (⟨"TypeRules$Parser", "readSimple", "()V"⟩, prog_6_method_8_code, 2, none, 4, 0, 5) := rfl
theorem d86_0 : decode prog_6_method_10_code 0 = .ok (.aload_n 0, 1) := by decide +kernel
theorem d86_1 : decode prog_6_method_10_code 1 = .ok (.getfield 9, 3) := by decide +kernel
theorem d86_4 : decode prog_6_method_10_code 4 = .ok (.invokevirtual 65, 3) := by decide +kernel
theorem d86_7 : decode prog_6_method_10_code 7 = .ok (.istore_n 1, 1) := by decide +kernel
theorem d86_8 : decode prog_6_method_10_code 8 = .ok (.aload_n 0, 1) := by decide +kernel
theorem d86_9 : decode prog_6_method_10_code 9 = .ok (.getfield 9, 3) := by decide +kernel
theorem d86_12 : decode prog_6_method_10_code 12 = .ok (.bipush 35, 2) := by decide +kernel
theorem d86_14 : decode prog_6_method_10_code 14 = .ok (.invokevirtual 48, 3) := by decide +kernel
theorem d86_17 : decode prog_6_method_10_code 17 = .ok (.ifCond .ne 15, 3) := by decide +kernel
theorem d86_20 : decode prog_6_method_10_code 20 = .ok (.aload_n 0, 1) := by decide +kernel
theorem d86_21 : decode prog_6_method_10_code 21 = .ok (.getfield 9, 3) := by decide +kernel
theorem d86_24 : decode prog_6_method_10_code 24 = .ok (.bipush 36, 2) := by decide +kernel
theorem d86_26 : decode prog_6_method_10_code 26 = .ok (.invokevirtual 48, 3) := by decide +kernel
theorem d86_29 : decode prog_6_method_10_code 29 = .ok (.ifCond .eq 39, 3) := by decide +kernel
theorem d86_32 : decode prog_6_method_10_code 32 = .ok (.aload_n 0, 1) := by decide +kernel
theorem d86_33 : decode prog_6_method_10_code 33 = .ok (.getfield 15, 3) := by decide +kernel
theorem d86_36 : decode prog_6_method_10_code 36 = .ok (.bipush 31, 2) := by decide +kernel
theorem d86_38 : decode prog_6_method_10_code 38 = .ok (.iload_n 1, 1) := by decide +kernel
theorem d86_39 : decode prog_6_method_10_code 39 = .ok (.aload_n 0, 1) := by decide +kernel
theorem d86_40 : decode prog_6_method_10_code 40 = .ok (.getfield 9, 3) := by decide +kernel
theorem d86_43 : decode prog_6_method_10_code 43 = .ok (.bipush 35, 2) := by decide +kernel
theorem d86_45 : decode prog_6_method_10_code 45 = .ok (.invokevirtual 48, 3) := by decide +kernel
theorem d86_48 : decode prog_6_method_10_code 48 = .ok (.ifCond .eq 7, 3) := by decide +kernel
theorem d86_51 : decode prog_6_method_10_code 51 = .ok (.iconst 1, 1) := by decide +kernel
theorem d86_52 : decode prog_6_method_10_code 52 = .ok (.goto 4, 3) := by decide +kernel
theorem d86_55 : decode prog_6_method_10_code 55 = .ok (.iconst 0, 1) := by decide +kernel
theorem d86_56 : decode prog_6_method_10_code 56 = .ok (.invokevirtual 34, 3) := by decide +kernel
theorem d86_59 : decode prog_6_method_10_code 59 = .ok (.pop, 1) := by decide +kernel
theorem d86_60 : decode prog_6_method_10_code 60 = .ok (.aload_n 0, 1) := by decide +kernel
theorem d86_61 : decode prog_6_method_10_code 61 = .ok (.getfield 9, 3) := by decide +kernel
theorem d86_64 : decode prog_6_method_10_code 64 = .ok (.invokevirtual 68, 3) := by decide +kernel
theorem d86_67 : decode prog_6_method_10_code 67 = .ok (.return_, 1) := by decide +kernel
theorem d86_68 : decode prog_6_method_10_code 68 = .ok (.aload_n 0, 1) := by decide +kernel
theorem d86_69 : decode prog_6_method_10_code 69 = .ok (.getfield 9, 3) := by decide +kernel
theorem d86_72 : decode prog_6_method_10_code 72 = .ok (.bipush 61, 2) := by decide +kernel
theorem d86_74 : decode prog_6_method_10_code 74 = .ok (.invokevirtual 48, 3) := by decide +kernel
theorem d86_77 : decode prog_6_method_10_code 77 = .ok (.istore_n 2, 1) := by decide +kernel
theorem d86_78 : decode prog_6_method_10_code 78 = .ok (.iload_n 2, 1) := by decide +kernel
theorem d86_79 : decode prog_6_method_10_code 79 = .ok (.ifCond .eq 10, 3) := by decide +kernel
theorem d86_82 : decode prog_6_method_10_code 82 = .ok (.aload_n 0, 1) := by decide +kernel
theorem d86_83 : decode prog_6_method_10_code 83 = .ok (.getfield 9, 3) := by decide +kernel
theorem d86_86 : decode prog_6_method_10_code 86 = .ok (.invokevirtual 68, 3) := by decide +kernel
theorem d86_89 : decode prog_6_method_10_code 89 = .ok (.aload_n 0, 1) := by decide +kernel
theorem d86_90 : decode prog_6_method_10_code 90 = .ok (.getfield 9, 3) := by decide +kernel
theorem d86_93 : decode prog_6_method_10_code 93 = .ok (.invokevirtual 71, 3) := by decide +kernel
theorem d86_96 : decode prog_6_method_10_code 96 = .ok (.istore_n 3, 1) := by decide +kernel
theorem d86_97 : decode prog_6_method_10_code 97 = .ok (.aload_n 0, 1) := by decide +kernel
theorem d86_98 : decode prog_6_method_10_code 98 = .ok (.getfield 15, 3) := by decide +kernel
theorem d86_101 : decode prog_6_method_10_code 101 = .ok (.bipush 30, 2) := by decide +kernel
theorem d86_103 : decode prog_6_method_10_code 103 = .ok (.iload_n 1, 1) := by decide +kernel
theorem d86_104 : decode prog_6_method_10_code 104 = .ok (.iload_n 2, 1) := by decide +kernel
theorem d86_105 : decode prog_6_method_10_code 105 = .ok (.ifCond .eq 8, 3) := by decide +kernel
theorem d86_108 : decode prog_6_method_10_code 108 = .ok (.iload_n 3, 1) := by decide +kernel
theorem d86_109 : decode prog_6_method_10_code 109 = .ok (.ineg, 1) := by decide +kernel
theorem d86_110 : decode prog_6_method_10_code 110 = .ok (.goto 4, 3) := by decide +kernel
theorem d86_113 : decode prog_6_method_10_code 113 = .ok (.iload_n 3, 1) := by decide +kernel
theorem d86_114 : decode prog_6_method_10_code 114 = .ok (.invokevirtual 34, 3) := by decide +kernel
theorem d86_117 : decode prog_6_method_10_code 117 = .ok (.pop, 1) := by decide +kernel
theorem d86_118 : decode prog_6_method_10_code 118 = .ok (.aload_n 0, 1) := by decide +kernel
theorem d86_119 : decode prog_6_method_10_code 119 = .ok (.getfield 9, 3) := by decide +kernel
theorem d86_122 : decode prog_6_method_10_code 122 = .ok (.bipush 42, 2) := by decide +kernel
theorem d86_124 : decode prog_6_method_10_code 124 = .ok (.invokevirtual 78, 3) := by decide +kernel
theorem d86_127 : decode prog_6_method_10_code 127 = .ok (.return_, 1) := by decide +kernel
theorem m86 : pm_m 86 = some (⟨"TypeRules$Parser", "readConstant", "()V"⟩, prog_6_method_10_code, 4, none, 4, 0, 5) := rfl
theorem d85_0 : decode prog_6_method_9_code 0 = .ok (.aload_n 0, 1) := by decide +kernel
theorem d85_1 : decode prog_6_method_9_code 1 = .ok (.getfield 15, 3) := by decide +kernel
theorem d85_4 : decode prog_6_method_9_code 4 = .ok (.bipush 9, 2) := by decide +kernel
theorem d85_6 : decode prog_6_method_9_code 6 = .ok (.aload_n 0, 1) := by decide +kernel
theorem d85_7 : decode prog_6_method_9_code 7 = .ok (.getfield 9, 3) := by decide +kernel
theorem d85_10 : decode prog_6_method_9_code 10 = .ok (.invokevirtual 65, 3) := by decide +kernel
theorem d85_13 : decode prog_6_method_9_code 13 = .ok (.iconst 0, 1) := by decide +kernel
theorem d85_14 : decode prog_6_method_9_code 14 = .ok (.invokevirtual 34, 3) := by decide +kernel
theorem d85_17 : decode prog_6_method_9_code 17 = .ok (.istore_n 1, 1) := by decide +kernel
theorem d85_18 : decode prog_6_method_9_code 18 = .ok (.aload_n 0, 1) := by decide +kernel
theorem d85_19 : decode prog_6_method_9_code 19 = .ok (.getfield 9, 3) := by decide +kernel
theorem d85_22 : decode prog_6_method_9_code 22 = .ok (.invokevirtual 68, 3) := by decide +kernel
theorem d85_25 : decode prog_6_method_9_code 25 = .ok (.aload_n 0, 1) := by decide +kernel
theorem d85_26 : decode prog_6_method_9_code 26 = .ok (.getfield 9, 3) := by decide +kernel
theorem d85_29 : decode prog_6_method_9_code 29 = .ok (.bipush 54, 2) := by decide +kernel
theorem d85_31 : decode prog_6_method_9_code 31 = .ok (.invokevirtual 78, 3) := by decide +kernel
theorem d85_34 : decode prog_6_method_9_code 34 = .ok (.aload_n 0, 1) := by decide +kernel
theorem d85_35 : decode prog_6_method_9_code 35 = .ok (.invokevirtual 102, 3) := by decide +kernel
theorem d85_38 : decode prog_6_method_9_code 38 = .ok (.aload_n 0, 1) := by decide +kernel
theorem d85_39 : decode prog_6_method_9_code 39 = .ok (.getfield 9, 3) := by decide +kernel
theorem d85_42 : decode prog_6_method_9_code 42 = .ok (.bipush 48, 2) := by decide +kernel
theorem d85_44 : decode prog_6_method_9_code 44 = .ok (.invokevirtual 78, 3) := by decide +kernel
theorem d85_47 : decode prog_6_method_9_code 47 = .ok (.aload_n 0, 1) := by decide +kernel
theorem d85_48 : decode prog_6_method_9_code 48 = .ok (.invokevirtual 102, 3) := by decide +kernel
theorem d85_51 : decode prog_6_method_9_code 51 = .ok (.aload_n 0, 1) := by decide +kernel
theorem d85_52 : decode prog_6_method_9_code 52 = .ok (.getfield 9, 3) := by decide +kernel
theorem d85_55 : decode prog_6_method_9_code 55 = .ok (.bipush 55, 2) := by decide +kernel
theorem d85_57 : decode prog_6_method_9_code 57 = .ok (.invokevirtual 78, 3) := by decide +kernel
theorem d85_60 : decode prog_6_method_9_code 60 = .ok (.aload_n 0, 1) := by decide +kernel
theorem d85_61 : decode prog_6_method_9_code 61 = .ok (.getfield 9, 3) := by decide +kernel
theorem d85_64 : decode prog_6_method_9_code 64 = .ok (.bipush 15, 2) := by decide +kernel
theorem d85_66 : decode prog_6_method_9_code 66 = .ok (.invokevirtual 78, 3) := by decide +kernel
theorem d85_69 : decode prog_6_method_9_code 69 = .ok (.aload_n 0, 1) := by decide +kernel
theorem d85_70 : decode prog_6_method_9_code 70 = .ok (.invokevirtual 81, 3) := by decide +kernel
theorem d85_73 : decode prog_6_method_9_code 73 = .ok (.aload_n 0, 1) := by decide +kernel
theorem d85_74 : decode prog_6_method_9_code 74 = .ok (.getfield 15, 3) := by decide +kernel
theorem d85_77 : decode prog_6_method_9_code 77 = .ok (.iload_n 1, 1) := by decide +kernel
theorem d85_78 : decode prog_6_method_9_code 78 = .ok (.invokevirtual 42, 3) := by decide +kernel
theorem d85_81 : decode prog_6_method_9_code 81 = .ok (.return_, 1) := by decide +kernel
theorem m85 : pm_m 85 = some (⟨"TypeRules$Parser", "readArray", "()V"⟩, prog_6_method_9_code, 2, none, 4, 0, 5) := rfl
theorem d90_0 : decode prog_6_method_32_code 0 = .ok (.aload_n 0, 1) := by decide +kernel
theorem d90_1 : decode prog_6_method_32_code 1 = .ok (.getfield 9, 3) := by decide +kernel
theorem d90_4 : decode prog_6_method_32_code 4 = .ok (.invokevirtual 58, 3) := by decide +kernel
theorem d90_7 : decode prog_6_method_32_code 7 = .ok (.istore 4, 2) := by decide +kernel
theorem d90_9 : decode prog_6_method_32_code 9 = .ok (.iload 4, 2) := by decide +kernel
theorem d90_11 : decode prog_6_method_32_code 11 = .ok (.iload_n 1, 1) := by decide +kernel
theorem d90_12 : decode prog_6_method_32_code 12 = .ok (.if_icmp .ne 5, 3) := by decide +kernel
theorem d90_15 : decode prog_6_method_32_code 15 = .ok (.iconst 1, 1) := by decide +kernel
theorem d90_16 : decode prog_6_method_32_code 16 = .ok (.ireturn, 1) := by decide +kernel
theorem d90_17 : decode prog_6_method_32_code 17 = .ok (.iload 4, 2) := by decide +kernel
theorem d90_19 : decode prog_6_method_32_code 19 = .ok (.iload_n 2, 1) := by decide +kernel
theorem d90_20 : decode prog_6_method_32_code 20 = .ok (.if_icmp .ne 5, 3) := by decide +kernel
theorem d90_23 : decode prog_6_method_32_code 23 = .ok (.iconst 2, 1) := by decide +kernel
theorem d90_24 : decode prog_6_method_32_code 24 = .ok (.ireturn, 1) := by decide +kernel
theorem d90_25 : decode prog_6_method_32_code 25 = .ok (.iload 4, 2) := by decide +kernel
theorem d90_27 : decode prog_6_method_32_code 27 = .ok (.iload_n 3, 1) := by decide +kernel
theorem d90_28 : decode prog_6_method_32_code 28 = .ok (.if_icmp .ne 7, 3) := by decide +kernel
theorem d90_31 : decode prog_6_method_32_code 31 = .ok (.iconst 3, 1) := by decide +kernel
theorem d90_32 : decode prog_6_method_32_code 32 = .ok (.goto 4, 3) := by decide +kernel
theorem d90_35 : decode prog_6_method_32_code 35 = .ok (.iconst 0, 1) := by decide +kernel
theorem d90_36 : decode prog_6_method_32_code 36 = .ok (.ireturn, 1) := by decide +kernel
theorem m90 : pm_m 90 = some (⟨"TypeRules$Parser", "markHere", "(III)I"⟩, prog_6_method_32_code, 5, (some FieldType.int), 4, 3, 5) := rfl
theorem d92_0 : decode prog_6_method_26_code 0 = .ok (.aload_n 0, 1) := by decide +kernel
theorem d92_1 : decode prog_6_method_26_code 1 = .ok (.getfield 9, 3) := by decide +kernel
theorem d92_4 : decode prog_6_method_26_code 4 = .ok (.invokevirtual 65, 3) := by decide +kernel
theorem d92_7 : decode prog_6_method_26_code 7 = .ok (.istore_n 1, 1) := by decide +kernel
theorem d92_8 : decode prog_6_method_26_code 8 = .ok (.aload_n 0, 1) := by decide +kernel
theorem d92_9 : decode prog_6_method_26_code 9 = .ok (.getfield 9, 3) := by decide +kernel
theorem d92_12 : decode prog_6_method_26_code 12 = .ok (.invokevirtual 71, 3) := by decide +kernel
theorem d92_15 : decode prog_6_method_26_code 15 = .ok (.istore_n 2, 1) := by decide +kernel
theorem d92_16 : decode prog_6_method_26_code 16 = .ok (.aload_n 0, 1) := by decide +kernel
theorem d92_17 : decode prog_6_method_26_code 17 = .ok (.getfield 9, 3) := by decide +kernel
theorem d92_20 : decode prog_6_method_26_code 20 = .ok (.bipush 41, 2) := by decide +kernel
theorem d92_22 : decode prog_6_method_26_code 22 = .ok (.invokevirtual 78, 3) := by decide +kernel
theorem d92_25 : decode prog_6_method_26_code 25 = .ok (.aload_n 0, 1) := by decide +kernel
theorem d92_26 : decode prog_6_method_26_code 26 = .ok (.getfield 9, 3) := by decide +kernel
theorem d92_29 : decode prog_6_method_26_code 29 = .ok (.bipush 59, 2) := by decide +kernel
theorem d92_31 : decode prog_6_method_26_code 31 = .ok (.invokevirtual 48, 3) := by decide +kernel
theorem d92_34 : decode prog_6_method_26_code 34 = .ok (.ifCond .eq 66, 3) := by decide +kernel
theorem d92_37 : decode prog_6_method_26_code 37 = .ok (.aload_n 0, 1) := by decide +kernel
theorem d92_38 : decode prog_6_method_26_code 38 = .ok (.getfield 15, 3) := by decide +kernel
theorem d92_41 : decode prog_6_method_26_code 41 = .ok (.bipush 33, 2) := by decide +kernel
theorem d92_43 : decode prog_6_method_26_code 43 = .ok (.iload_n 1, 1) := by decide +kernel
theorem d92_44 : decode prog_6_method_26_code 44 = .ok (.iload_n 2, 1) := by decide +kernel
theorem d92_45 : decode prog_6_method_26_code 45 = .ok (.invokevirtual 34, 3) := by decide +kernel
theorem d92_48 : decode prog_6_method_26_code 48 = .ok (.istore_n 3, 1) := by decide +kernel
theorem d92_49 : decode prog_6_method_26_code 49 = .ok (.aload_n 0, 1) := by decide +kernel
theorem d92_50 : decode prog_6_method_26_code 50 = .ok (.getfield 9, 3) := by decide +kernel
theorem d92_53 : decode prog_6_method_26_code 53 = .ok (.invokevirtual 68, 3) := by decide +kernel
theorem d92_56 : decode prog_6_method_26_code 56 = .ok (.aload_n 0, 1) := by decide +kernel
theorem d92_57 : decode prog_6_method_26_code 57 = .ok (.getfield 15, 3) := by decide +kernel
theorem d92_60 : decode prog_6_method_26_code 60 = .ok (.bipush 6, 2) := by decide +kernel
theorem d92_62 : decode prog_6_method_26_code 62 = .ok (.aload_n 0, 1) := by decide +kernel
theorem d92_63 : decode prog_6_method_26_code 63 = .ok (.getfield 9, 3) := by decide +kernel
theorem d92_66 : decode prog_6_method_26_code 66 = .ok (.invokevirtual 65, 3) := by decide +kernel
theorem d92_69 : decode prog_6_method_26_code 69 = .ok (.aload_n 0, 1) := by decide +kernel
theorem d92_70 : decode prog_6_method_26_code 70 = .ok (.getfield 9, 3) := by decide +kernel
theorem d92_73 : decode prog_6_method_26_code 73 = .ok (.invokevirtual 71, 3) := by decide +kernel
theorem d92_76 : decode prog_6_method_26_code 76 = .ok (.invokevirtual 34, 3) := by decide +kernel
theorem d92_79 : decode prog_6_method_26_code 79 = .ok (.pop, 1) := by decide +kernel
theorem d92_80 : decode prog_6_method_26_code 80 = .ok (.aload_n 0, 1) := by decide +kernel
theorem d92_81 : decode prog_6_method_26_code 81 = .ok (.getfield 9, 3) := by decide +kernel
theorem d92_84 : decode prog_6_method_26_code 84 = .ok (.bipush 41, 2) := by decide +kernel
theorem d92_86 : decode prog_6_method_26_code 86 = .ok (.invokevirtual 78, 3) := by decide +kernel
theorem d92_89 : decode prog_6_method_26_code 89 = .ok (.aload_n 0, 1) := by decide +kernel
theorem d92_90 : decode prog_6_method_26_code 90 = .ok (.getfield 15, 3) := by decide +kernel
theorem d92_93 : decode prog_6_method_26_code 93 = .ok (.iload_n 3, 1) := by decide +kernel
theorem d92_94 : decode prog_6_method_26_code 94 = .ok (.invokevirtual 42, 3) := by decide +kernel
theorem d92_97 : decode prog_6_method_26_code 97 = .ok (.goto 15, 3) := by decide +kernel
theorem d92_100 : decode prog_6_method_26_code 100 = .ok (.aload_n 0, 1) := by decide +kernel
theorem d92_101 : decode prog_6_method_26_code 101 = .ok (.getfield 15, 3) := by decide +kernel
theorem d92_104 : decode prog_6_method_26_code 104 = .ok (.bipush 6, 2) := by decide +kernel
theorem d92_106 : decode prog_6_method_26_code 106 = .ok (.iload_n 1, 1) := by decide +kernel
theorem d92_107 : decode prog_6_method_26_code 107 = .ok (.iload_n 2, 1) := by decide +kernel
theorem d92_108 : decode prog_6_method_26_code 108 = .ok (.invokevirtual 34, 3) := by decide +kernel
theorem d92_111 : decode prog_6_method_26_code 111 = .ok (.pop, 1) := by decide +kernel
theorem d92_112 : decode prog_6_method_26_code 112 = .ok (.return_, 1) := by decide +kernel
theorem m92 : pm_m 92 = some (⟨"TypeRules$Parser", "readNameOrOutput", "()V"⟩, prog_6_method_26_code, 4, none, 4, 0, 5) := rfl
theorem d91_0 : decode prog_6_method_30_code 0 = .ok (.aload_n 0, 1) := by decide +kernel
theorem d91_1 : decode prog_6_method_30_code 1 = .ok (.getfield 15, 3) := by decide +kernel
theorem d91_4 : decode prog_6_method_30_code 4 = .ok (.bipush 25, 2) := by decide +kernel
theorem d91_6 : decode prog_6_method_30_code 6 = .ok (.aload_n 0, 1) := by decide +kernel
theorem d91_7 : decode prog_6_method_30_code 7 = .ok (.getfield 9, 3) := by decide +kernel
theorem d91_10 : decode prog_6_method_30_code 10 = .ok (.invokevirtual 65, 3) := by decide +kernel
theorem d91_13 : decode prog_6_method_30_code 13 = .ok (.iconst 0, 1) := by decide +kernel
theorem d91_14 : decode prog_6_method_30_code 14 = .ok (.invokevirtual 34, 3) := by decide +kernel
theorem d91_17 : decode prog_6_method_30_code 17 = .ok (.istore_n 1, 1) := by decide +kernel
theorem d91_18 : decode prog_6_method_30_code 18 = .ok (.aload_n 0, 1) := by decide +kernel
theorem d91_19 : decode prog_6_method_30_code 19 = .ok (.bipush 63, 2) := by decide +kernel
theorem d91_21 : decode prog_6_method_30_code 21 = .ok (.bipush 66, 2) := by decide +kernel
theorem d91_23 : decode prog_6_method_30_code 23 = .ok (.bipush 65, 2) := by decide +kernel
theorem d91_25 : decode prog_6_method_30_code 25 = .ok (.invokevirtual 185, 3) := by decide +kernel
theorem d91_28 : decode prog_6_method_30_code 28 = .ok (.istore_n 2, 1) := by decide +kernel
theorem d91_29 : decode prog_6_method_30_code 29 = .ok (.aload_n 0, 1) := by decide +kernel
theorem d91_30 : decode prog_6_method_30_code 30 = .ok (.getfield 15, 3) := by decide +kernel
theorem d91_33 : decode prog_6_method_30_code 33 = .ok (.iload_n 1, 1) := by decide +kernel
theorem d91_34 : decode prog_6_method_30_code 34 = .ok (.iload_n 2, 1) := by decide +kernel
theorem d91_35 : decode prog_6_method_30_code 35 = .ok (.invokevirtual 74, 3) := by decide +kernel
theorem d91_38 : decode prog_6_method_30_code 38 = .ok (.iload_n 2, 1) := by decide +kernel
theorem d91_39 : decode prog_6_method_30_code 39 = .ok (.ifCond .eq 10, 3) := by decide +kernel
theorem d91_42 : decode prog_6_method_30_code 42 = .ok (.aload_n 0, 1) := by decide +kernel
theorem d91_43 : decode prog_6_method_30_code 43 = .ok (.getfield 9, 3) := by decide +kernel
theorem d91_46 : decode prog_6_method_30_code 46 = .ok (.invokevirtual 68, 3) := by decide +kernel
theorem d91_49 : decode prog_6_method_30_code 49 = .ok (.aload_n 0, 1) := by decide +kernel
theorem d91_50 : decode prog_6_method_30_code 50 = .ok (.invokevirtual 170, 3) := by decide +kernel
theorem d91_53 : decode prog_6_method_30_code 53 = .ok (.aload_n 0, 1) := by decide +kernel
theorem d91_54 : decode prog_6_method_30_code 54 = .ok (.getfield 15, 3) := by decide +kernel
theorem d91_57 : decode prog_6_method_30_code 57 = .ok (.iload_n 1, 1) := by decide +kernel
theorem d91_58 : decode prog_6_method_30_code 58 = .ok (.invokevirtual 42, 3) := by decide +kernel
theorem d91_61 : decode prog_6_method_30_code 61 = .ok (.return_, 1) := by decide +kernel
theorem m91 : pm_m 91 = some (⟨"TypeRules$Parser", "readContact", "()V"⟩, prog_6_method_30_code, 3, none, 4, 0, 5) := rfl
theorem d89_0 : decode prog_6_method_31_code 0 = .ok (.aload_n 0, 1) := by decide +kernel
theorem d89_1 : decode prog_6_method_31_code 1 = .ok (.getfield 15, 3) := by decide +kernel
theorem d89_4 : decode prog_6_method_31_code 4 = .ok (.bipush 28, 2) := by decide +kernel
theorem d89_6 : decode prog_6_method_31_code 6 = .ok (.aload_n 0, 1) := by decide +kernel
theorem d89_7 : decode prog_6_method_31_code 7 = .ok (.getfield 9, 3) := by decide +kernel
theorem d89_10 : decode prog_6_method_31_code 10 = .ok (.invokevirtual 65, 3) := by decide +kernel
theorem d89_13 : decode prog_6_method_31_code 13 = .ok (.iconst 0, 1) := by decide +kernel
theorem d89_14 : decode prog_6_method_31_code 14 = .ok (.invokevirtual 34, 3) := by decide +kernel
theorem d89_17 : decode prog_6_method_31_code 17 = .ok (.istore_n 1, 1) := by decide +kernel
theorem d89_18 : decode prog_6_method_31_code 18 = .ok (.aload_n 0, 1) := by decide +kernel
theorem d89_19 : decode prog_6_method_31_code 19 = .ok (.getfield 9, 3) := by decide +kernel
theorem d89_22 : decode prog_6_method_31_code 22 = .ok (.invokevirtual 68, 3) := by decide +kernel
theorem d89_25 : decode prog_6_method_31_code 25 = .ok (.aload_n 0, 1) := by decide +kernel
theorem d89_26 : decode prog_6_method_31_code 26 = .ok (.bipush 63, 2) := by decide +kernel
theorem d89_28 : decode prog_6_method_31_code 28 = .ok (.bipush 60, 2) := by decide +kernel
theorem d89_30 : decode prog_6_method_31_code 30 = .ok (.bipush 61, 2) := by decide +kernel
theorem d89_32 : decode prog_6_method_31_code 32 = .ok (.invokevirtual 185, 3) := by decide +kernel
theorem d89_35 : decode prog_6_method_31_code 35 = .ok (.istore_n 2, 1) := by decide +kernel
theorem d89_36 : decode prog_6_method_31_code 36 = .ok (.aload_n 0, 1) := by decide +kernel
theorem d89_37 : decode prog_6_method_31_code 37 = .ok (.getfield 15, 3) := by decide +kernel
theorem d89_40 : decode prog_6_method_31_code 40 = .ok (.iload_n 1, 1) := by decide +kernel
theorem d89_41 : decode prog_6_method_31_code 41 = .ok (.iload_n 2, 1) := by decide +kernel
theorem d89_42 : decode prog_6_method_31_code 42 = .ok (.invokevirtual 74, 3) := by decide +kernel
theorem d89_45 : decode prog_6_method_31_code 45 = .ok (.iload_n 2, 1) := by decide +kernel
theorem d89_46 : decode prog_6_method_31_code 46 = .ok (.ifCond .eq 10, 3) := by decide +kernel
theorem d89_49 : decode prog_6_method_31_code 49 = .ok (.aload_n 0, 1) := by decide +kernel
theorem d89_50 : decode prog_6_method_31_code 50 = .ok (.getfield 9, 3) := by decide +kernel
theorem d89_53 : decode prog_6_method_31_code 53 = .ok (.invokevirtual 68, 3) := by decide +kernel
theorem d89_56 : decode prog_6_method_31_code 56 = .ok (.aload_n 0, 1) := by decide +kernel
theorem d89_57 : decode prog_6_method_31_code 57 = .ok (.invokevirtual 96, 3) := by decide +kernel
theorem d89_60 : decode prog_6_method_31_code 60 = .ok (.aload_n 0, 1) := by decide +kernel
theorem d89_61 : decode prog_6_method_31_code 61 = .ok (.getfield 9, 3) := by decide +kernel
theorem d89_64 : decode prog_6_method_31_code 64 = .ok (.bipush 53, 2) := by decide +kernel
theorem d89_66 : decode prog_6_method_31_code 66 = .ok (.invokevirtual 78, 3) := by decide +kernel
theorem d89_69 : decode prog_6_method_31_code 69 = .ok (.aload_n 0, 1) := by decide +kernel
theorem d89_70 : decode prog_6_method_31_code 70 = .ok (.getfield 15, 3) := by decide +kernel
theorem d89_73 : decode prog_6_method_31_code 73 = .ok (.iload_n 1, 1) := by decide +kernel
theorem d89_74 : decode prog_6_method_31_code 74 = .ok (.invokevirtual 42, 3) := by decide +kernel
theorem d89_77 : decode prog_6_method_31_code 77 = .ok (.return_, 1) := by decide +kernel
theorem m89 : pm_m 89 = some (⟨"TypeRules$Parser", "readCoil", "()V"⟩, prog_6_method_31_code, 3, none, 4, 0, 5) := rfl
theorem d93_0 : decode prog_6_method_28_code 0 = .ok (.aload_n 0, 1) := by decide +kernel
theorem d93_1 : decode prog_6_method_28_code 1 = .ok (.getfield 9, 3) := by decide +kernel
theorem d93_4 : decode prog_6_method_28_code 4 = .ok (.invokevirtual 58, 3) := by decide +kernel
theorem d93_7 : decode prog_6_method_28_code 7 = .ok (.lookupswitch 67 #[(41, 65), (52, 65), (61, 65), (62, 65), (63, 65), (65, 65), (66, 65)], 65) := by decide +kernel
theorem d93_72 : decode prog_6_method_28_code 72 = .ok (.iconst 1, 1) := by decide +kernel
theorem d93_73 : decode prog_6_method_28_code 73 = .ok (.ireturn, 1) := by decide +kernel
theorem d93_74 : decode prog_6_method_28_code 74 = .ok (.iconst 0, 1) := by decide +kernel
theorem d93_75 : decode prog_6_method_28_code 75 = .ok (.ireturn, 1) := by decide +kernel
theorem m93 : pm_m 93 = some (⟨"TypeRules$Parser", "isCellHere", "()Z"⟩, prog_6_method_28_code, 1, (some FieldType.boolean), 4, 0, 5) := rfl
theorem d106_0 : decode prog_6_method_11_code 0 = .ok (.aload_n 0, 1) := by decide +kernel
theorem d106_1 : decode prog_6_method_11_code 1 = .ok (.getfield 9, 3) := by decide +kernel
theorem d106_4 : decode prog_6_method_11_code 4 = .ok (.bipush 42, 2) := by decide +kernel
theorem d106_6 : decode prog_6_method_11_code 6 = .ok (.invokevirtual 48, 3) := by decide +kernel
theorem d106_9 : decode prog_6_method_11_code 9 = .ok (.ifCond .ne 39, 3) := by decide +kernel
theorem d106_12 : decode prog_6_method_11_code 12 = .ok (.aload_n 0, 1) := by decide +kernel
theorem d106_13 : decode prog_6_method_11_code 13 = .ok (.getfield 9, 3) := by decide +kernel
theorem d106_16 : decode prog_6_method_11_code 16 = .ok (.bipush 61, 2) := by decide +kernel
theorem d106_18 : decode prog_6_method_11_code 18 = .ok (.invokevirtual 48, 3) := by decide +kernel
theorem d106_21 : decode prog_6_method_11_code 21 = .ok (.ifCond .ne 27, 3) := by decide +kernel
theorem d106_24 : decode prog_6_method_11_code 24 = .ok (.aload_n 0, 1) := by decide +kernel
theorem d106_25 : decode prog_6_method_11_code 25 = .ok (.getfield 9, 3) := by decide +kernel
theorem d106_28 : decode prog_6_method_11_code 28 = .ok (.bipush 35, 2) := by decide +kernel
theorem d106_30 : decode prog_6_method_11_code 30 = .ok (.invokevirtual 48, 3) := by decide +kernel
theorem d106_33 : decode prog_6_method_11_code 33 = .ok (.ifCond .ne 15, 3) := by decide +kernel
theorem d106_36 : decode prog_6_method_11_code 36 = .ok (.aload_n 0, 1) := by decide +kernel
theorem d106_37 : decode prog_6_method_11_code 37 = .ok (.getfield 9, 3) := by decide +kernel
theorem d106_40 : decode prog_6_method_11_code 40 = .ok (.bipush 36, 2) := by decide +kernel
theorem d106_42 : decode prog_6_method_11_code 42 = .ok (.invokevirtual 48, 3) := by decide +kernel
theorem d106_45 : decode prog_6_method_11_code 45 = .ok (.ifCond .eq 7, 3) := by decide +kernel
theorem d106_48 : decode prog_6_method_11_code 48 = .ok (.iconst 1, 1) := by decide +kernel
theorem d106_49 : decode prog_6_method_11_code 49 = .ok (.goto 4, 3) := by decide +kernel
theorem d106_52 : decode prog_6_method_11_code 52 = .ok (.iconst 0, 1) := by decide +kernel
theorem d106_53 : decode prog_6_method_11_code 53 = .ok (.ireturn, 1) := by decide +kernel
theorem m106 : pm_m 106 = some (⟨"TypeRules$Parser", "isConstantHere", "()Z"⟩, prog_6_method_11_code, 1, (some FieldType.boolean), 4, 0, 5) := rfl
theorem d102_0 : decode prog_6_method_22_code 0 = .ok (.aload_n 0, 1) := by decide +kernel
theorem d102_1 : decode prog_6_method_22_code 1 = .ok (.getfield 9, 3) := by decide +kernel
theorem d102_4 : decode prog_6_method_22_code 4 = .ok (.invokevirtual 58, 3) := by decide +kernel
theorem d102_7 : decode prog_6_method_22_code 7 = .ok (.tableswitch 201 30 67 #[165, 167, 169, 198, 201, 201, 201, 201, 201, 201, 201, 201, 201, 201, 201, 201, 201, 201, 201, 180, 183, 173, 201, 201, 201, 201, 201, 201, 201, 201, 186, 189, 192, 195, 171, 175, 177, 169], 165) := by decide +kernel
theorem d102_172 : decode prog_6_method_22_code 172 = .ok (.iconst 0, 1) := by decide +kernel
theorem d102_173 : decode prog_6_method_22_code 173 = .ok (.ireturn, 1) := by decide +kernel
theorem d102_174 : decode prog_6_method_22_code 174 = .ok (.iconst 1, 1) := by decide +kernel
theorem d102_175 : decode prog_6_method_22_code 175 = .ok (.ireturn, 1) := by decide +kernel
theorem d102_176 : decode prog_6_method_22_code 176 = .ok (.iconst 2, 1) := by decide +kernel
theorem d102_177 : decode prog_6_method_22_code 177 = .ok (.ireturn, 1) := by decide +kernel
theorem d102_178 : decode prog_6_method_22_code 178 = .ok (.iconst 3, 1) := by decide +kernel
theorem d102_179 : decode prog_6_method_22_code 179 = .ok (.ireturn, 1) := by decide +kernel
theorem d102_180 : decode prog_6_method_22_code 180 = .ok (.iconst 4, 1) := by decide +kernel
theorem d102_181 : decode prog_6_method_22_code 181 = .ok (.ireturn, 1) := by decide +kernel
theorem d102_182 : decode prog_6_method_22_code 182 = .ok (.iconst 5, 1) := by decide +kernel
theorem d102_183 : decode prog_6_method_22_code 183 = .ok (.ireturn, 1) := by decide +kernel
theorem d102_184 : decode prog_6_method_22_code 184 = .ok (.bipush 6, 2) := by decide +kernel
theorem d102_186 : decode prog_6_method_22_code 186 = .ok (.ireturn, 1) := by decide +kernel
theorem d102_187 : decode prog_6_method_22_code 187 = .ok (.bipush 7, 2) := by decide +kernel
theorem d102_189 : decode prog_6_method_22_code 189 = .ok (.ireturn, 1) := by decide +kernel
theorem d102_190 : decode prog_6_method_22_code 190 = .ok (.bipush 8, 2) := by decide +kernel
theorem d102_192 : decode prog_6_method_22_code 192 = .ok (.ireturn, 1) := by decide +kernel
theorem d102_193 : decode prog_6_method_22_code 193 = .ok (.bipush 9, 2) := by decide +kernel
theorem d102_195 : decode prog_6_method_22_code 195 = .ok (.ireturn, 1) := by decide +kernel
theorem d102_196 : decode prog_6_method_22_code 196 = .ok (.bipush 10, 2) := by decide +kernel
theorem d102_198 : decode prog_6_method_22_code 198 = .ok (.ireturn, 1) := by decide +kernel
theorem d102_199 : decode prog_6_method_22_code 199 = .ok (.bipush 11, 2) := by decide +kernel
theorem d102_201 : decode prog_6_method_22_code 201 = .ok (.ireturn, 1) := by decide +kernel
theorem d102_202 : decode prog_6_method_22_code 202 = .ok (.bipush 12, 2) := by decide +kernel
theorem d102_204 : decode prog_6_method_22_code 204 = .ok (.ireturn, 1) := by decide +kernel
theorem d102_205 : decode prog_6_method_22_code 205 = .ok (.bipush 13, 2) := by decide +kernel
theorem d102_207 : decode prog_6_method_22_code 207 = .ok (.ireturn, 1) := by decide +kernel
theorem d102_208 : decode prog_6_method_22_code 208 = .ok (.iconst (-1), 1) := by decide +kernel
theorem d102_209 : decode prog_6_method_22_code 209 = .ok (.ireturn, 1) := by decide +kernel
theorem m102 : pm_m 102 = some (⟨"TypeRules$Parser", "signHere", "()I"⟩, prog_6_method_22_code, 1, (some FieldType.int), 4, 0, 5) := rfl
theorem d80_0 : decode prog_6_method_4_code 0 = .ok (.iload_n 0, 1) := by decide +kernel
theorem d80_1 : decode prog_6_method_4_code 1 = .ok (.lookupswitch 31 #[(0, 27), (2, 29)], 27) := by decide +kernel
theorem d80_28 : decode prog_6_method_4_code 28 = .ok (.iconst 1, 1) := by decide +kernel
theorem d80_29 : decode prog_6_method_4_code 29 = .ok (.ireturn, 1) := by decide +kernel
theorem d80_30 : decode prog_6_method_4_code 30 = .ok (.iconst 2, 1) := by decide +kernel
theorem d80_31 : decode prog_6_method_4_code 31 = .ok (.ireturn, 1) := by decide +kernel
theorem d80_32 : decode prog_6_method_4_code 32 = .ok (.iconst 3, 1) := by decide +kernel
theorem d80_33 : decode prog_6_method_4_code 33 = .ok (.ireturn, 1) := by decide +kernel
theorem m80 : pm_m 80 = some (⟨"TypeRules$Parser", "blockKind", "(I)I"⟩, prog_6_method_4_code, 1, (some FieldType.int), 4, 1, 0) := rfl
theorem pp84 {d : Nat} {T : pg_T} {n : Nat} {σ0 σ : pm_S} {c : pg_C} {l s : List pg_N} {Q : Option Value → pm_S → Prop} (hK : pc_K T n σ0) (hR : pc_R T n σ0 σ c l s) (hQ : ∀ σ', pc_R T n σ0 σ' (pg_name T c).1 l (s ++ (pg_name T c).2) → Q none σ') : pm_call pm_Y0 (d + 2) 84 [.ref 4] σ Q := by
  refine wq_m m84 (Nat.le_of_ble_eq_true rfl) (by decide) rfl ?_
  refine wq_l 1 d84_0 rfl rfl rfl rfl ?_
  refine wq_gr (ci := 4) (j := 1) (q := 3) 4 d84_1 rfl rfl rfl rfl ?_
  refine wq_k 6 6 d84_4 (by decide) rfl ?_
  refine wq_l 7 d84_6 rfl rfl rfl rfl ?_
  refine wq_gr (ci := 4) (j := 0) (q := 2) 10 d84_7 rfl rfl rfl rfl ?_
  refine wq_v 13 [] d84_10 rfl rfl m46 rfl rfl (Nat.le_of_ble_eq_true rfl) rfl (pk46 hK hR ?_)
  refine wq_l 14 d84_13 rfl rfl rfl rfl ?_
  refine wq_gr (ci := 4) (j := 0) (q := 2) 17 d84_14 rfl rfl rfl rfl ?_
  refine wq_v 20 [] d84_17 rfl rfl m48 rfl rfl (Nat.le_of_ble_eq_true rfl) rfl (pk48 hK hR ?_)
  refine wq_v 23 [_, _, _] d84_20 rfl rfl m57 rfl rfl (Nat.le_of_ble_eq_true rfl) rfl (pk57 (k := 6) hR (fun σ20 x20 h20 => ?_))
  refine wq_a 24 d84_23 rfl rfl ?_
  refine wq_l 25 d84_24 rfl rfl rfl rfl ?_
  refine wq_gr (ci := 4) (j := 0) (q := 2) 28 d84_25 rfl rfl rfl rfl ?_
  refine wq_k 30 41 d84_28 (by decide) rfl ?_
  refine wq_v 33 [_] d84_30 rfl rfl m49 rfl rfl (Nat.le_of_ble_eq_true rfl) rfl (pk49 (k := 41) hK (by decide) h20 (fun σ30 h30 => ?_))
  refine wq_rv d84_33 ?_
  exact hQ _ (pc_e h30 (by first | simp only [pg_name, pg_leaf, if_true, if_false, Bool.false_eq_true] | rfl) (by simp only [pg_name, pg_leaf, List.append_assoc, List.nil_append, List.append_nil, List.cons_append, List.singleton_append, List.length_append, List.length_cons, List.length_nil, List.length_singleton, if_true, if_false, Bool.false_eq_true]))
theorem pp81 {d : Nat} {T : pg_T} {n : Nat} {σ0 σ : pm_S} {c : pg_C} {l s : List pg_N} {Q : Option Value → pm_S → Prop} (hK : pc_K T n σ0) (hR : pc_R T n σ0 σ c l s) (hQ : ∀ σ', pc_R T n σ0 σ' (pg_simple T c).1 l (s ++ (pg_simple T c).2) → Q none σ') : pm_call pm_Y0 (d + 2) 81 [.ref 4] σ Q := by
  have kq : ∀ k, k < 100 → (nI (pg_k T c) = nI k ↔ pg_k T c = k) := fun k hk => pc_kq hK hk
  refine wq_m m81 (Nat.le_of_ble_eq_true rfl) (by decide) rfl ?_
  refine wq_l 1 d81_0 rfl rfl rfl rfl ?_
  refine wq_gr (ci := 4) (j := 0) (q := 2) 4 d81_1 rfl rfl rfl rfl ?_
  refine wq_v 7 [] d81_4 rfl rfl m45 rfl rfl (Nat.le_of_ble_eq_true rfl) rfl (pk45 hR ?_)
  refine wq_s 8 d81_7 rfl rfl (Nat.le_of_ble_eq_true rfl) rfl rfl ?_
  refine wq_l 9 d81_8 rfl rfl rfl rfl ?_
  refine wq_k 11 11 d81_9 (by decide) rfl ?_
  refine wq_b 26 14 d81_11 rfl (by decide) rfl (fun c11 => ?_) (fun c11 => ?_)
  · -- pc 26
    have hk : pg_k T c = 11 ∨ pg_k T c = 12 ∨ pg_k T c = 13 := by first | exact Or.inl ((kq 11 (by decide)).mp c11) | exact Or.inr (Or.inl ((kq 12 (by decide)).mp c17)) | exact Or.inr (Or.inr ((kq 13 (by decide)).mp (Classical.not_not.mp c23)))
    have hl : pg_live T c ∧ T.1 c.1 ≠ 44 := by rcases hk with z | z | z <;> exact pg_kl z (by decide)
    have ha : pg_any T [11, 12, 13] c = true := by rcases hk with z | z | z <;> exact pg_any3 z (by decide)
    refine wq_l 27 d81_26 rfl rfl rfl rfl ?_
    refine wq_gr (ci := 4) (j := 1) (q := 3) 30 d81_27 rfl rfl rfl rfl ?_
    refine wq_k 32 8 d81_30 (by decide) rfl ?_
    refine wq_l 33 d81_32 rfl rfl rfl rfl ?_
    refine wq_gr (ci := 4) (j := 0) (q := 2) 36 d81_33 rfl rfl rfl rfl ?_
    refine wq_v 39 [] d81_36 rfl rfl m46 rfl rfl (Nat.le_of_ble_eq_true rfl) rfl (pk46 hK hR ?_)
    refine wq_l 40 d81_39 rfl rfl rfl rfl ?_
    refine wq_k 42 11 d81_40 (by decide) rfl ?_
    refine wq_a 43 d81_42 rfl rfl ?_
    rw [show nI (pg_k T c) - 11 = nI (pg_k T c - 11) from pk_sub (b := 11) (by omega)]
    refine wq_v 46 [_, _, _] d81_43 rfl rfl m57 rfl rfl (Nat.le_of_ble_eq_true rfl) rfl (pk57 (k := 8) hR (fun σ43 x43 h43 => ?_))
    refine wq_a 47 d81_46 rfl rfl ?_
    refine wq_l 48 d81_47 rfl rfl rfl rfl ?_
    refine wq_gr (ci := 4) (j := 0) (q := 2) 51 d81_48 rfl rfl rfl rfl ?_
    refine wq_v 54 [] d81_51 rfl rfl m47 rfl rfl (Nat.le_of_ble_eq_true rfl) rfl (pk47 hK h43 (hl).1 (hl).2 (fun σ51 h51 => ?_))
    refine wq_g 64 d81_54 (by decide) ?_
    refine wq_rv d81_64 ?_
    exact hQ _ (pc_e h51 (by first | simp only [pg_simple, pg_leaf, pg_ite, pg_tok, if_true, if_false, Bool.false_eq_true, ha] | rfl) (by simp only [pg_simple, pg_leaf, pg_ite, pg_tok, List.append_assoc, List.nil_append, List.append_nil, List.cons_append, List.singleton_append, List.length_append, List.length_cons, List.length_nil, List.length_singleton, if_true, if_false, Bool.false_eq_true, ha]))
  · -- pc 14
    refine wq_l 15 d81_14 rfl rfl rfl rfl ?_
    refine wq_k 17 12 d81_15 (by decide) rfl ?_
    refine wq_b 26 20 d81_17 rfl (by decide) rfl (fun c17 => ?_) (fun c17 => ?_)
    · -- pc 26
      have hk : pg_k T c = 11 ∨ pg_k T c = 12 ∨ pg_k T c = 13 := by first | exact Or.inl ((kq 11 (by decide)).mp c11) | exact Or.inr (Or.inl ((kq 12 (by decide)).mp c17)) | exact Or.inr (Or.inr ((kq 13 (by decide)).mp (Classical.not_not.mp c23)))
      have hl : pg_live T c ∧ T.1 c.1 ≠ 44 := by rcases hk with z | z | z <;> exact pg_kl z (by decide)
      have ha : pg_any T [11, 12, 13] c = true := by rcases hk with z | z | z <;> exact pg_any3 z (by decide)
      refine wq_l 27 d81_26 rfl rfl rfl rfl ?_
      refine wq_gr (ci := 4) (j := 1) (q := 3) 30 d81_27 rfl rfl rfl rfl ?_
      refine wq_k 32 8 d81_30 (by decide) rfl ?_
      refine wq_l 33 d81_32 rfl rfl rfl rfl ?_
      refine wq_gr (ci := 4) (j := 0) (q := 2) 36 d81_33 rfl rfl rfl rfl ?_
      refine wq_v 39 [] d81_36 rfl rfl m46 rfl rfl (Nat.le_of_ble_eq_true rfl) rfl (pk46 hK hR ?_)
      refine wq_l 40 d81_39 rfl rfl rfl rfl ?_
      refine wq_k 42 11 d81_40 (by decide) rfl ?_
      refine wq_a 43 d81_42 rfl rfl ?_
      rw [show nI (pg_k T c) - 11 = nI (pg_k T c - 11) from pk_sub (b := 11) (by omega)]
      refine wq_v 46 [_, _, _] d81_43 rfl rfl m57 rfl rfl (Nat.le_of_ble_eq_true rfl) rfl (pk57 (k := 8) hR (fun σ43 x43 h43 => ?_))
      refine wq_a 47 d81_46 rfl rfl ?_
      refine wq_l 48 d81_47 rfl rfl rfl rfl ?_
      refine wq_gr (ci := 4) (j := 0) (q := 2) 51 d81_48 rfl rfl rfl rfl ?_
      refine wq_v 54 [] d81_51 rfl rfl m47 rfl rfl (Nat.le_of_ble_eq_true rfl) rfl (pk47 hK h43 (hl).1 (hl).2 (fun σ51 h51 => ?_))
      refine wq_g 64 d81_54 (by decide) ?_
      refine wq_rv d81_64 ?_
      exact hQ _ (pc_e h51 (by first | simp only [pg_simple, pg_leaf, pg_ite, pg_tok, if_true, if_false, Bool.false_eq_true, ha] | rfl) (by simp only [pg_simple, pg_leaf, pg_ite, pg_tok, List.append_assoc, List.nil_append, List.append_nil, List.cons_append, List.singleton_append, List.length_append, List.length_cons, List.length_nil, List.length_singleton, if_true, if_false, Bool.false_eq_true, ha]))
    · -- pc 20
      refine wq_l 21 d81_20 rfl rfl rfl rfl ?_
      refine wq_k 23 13 d81_21 (by decide) rfl ?_
      refine wq_b 57 26 d81_23 rfl (by decide) rfl (fun c23 => ?_) (fun c23 => ?_)
      · -- pc 57
        have ha : pg_any T [11, 12, 13] c = false := pg_anyn (by
          intro k hk
          rcases List.mem_cons.mp hk with z | z
          · subst z; exact fun w => c11 ((kq 11 (by decide)).mpr w)
          rcases List.mem_cons.mp z with z | z
          · subst z; exact fun w => c17 ((kq 12 (by decide)).mpr w)
          rcases List.mem_cons.mp z with z | z
          · subst z; exact fun w => c23 ((kq 13 (by decide)).mpr w)
          · cases z)
        refine wq_l 58 d81_57 rfl rfl rfl rfl ?_
        refine wq_gr (ci := 4) (j := 0) (q := 2) 61 d81_58 rfl rfl rfl rfl ?_
        refine wq_v 64 [] d81_61 rfl rfl m50 rfl rfl (Nat.le_of_ble_eq_true rfl) rfl (pk50 hR (fun σ61 h61 => ?_))
        refine wq_rv d81_64 ?_
        exact hQ _ (pc_e h61 (by first | simp only [pg_simple, pg_leaf, pg_ite, pg_tok, if_true, if_false, Bool.false_eq_true, ha] | rfl) (by simp only [pg_simple, pg_leaf, pg_ite, pg_tok, List.append_assoc, List.nil_append, List.append_nil, List.cons_append, List.singleton_append, List.length_append, List.length_cons, List.length_nil, List.length_singleton, if_true, if_false, Bool.false_eq_true, ha]))
      · -- pc 26
        have hk : pg_k T c = 11 ∨ pg_k T c = 12 ∨ pg_k T c = 13 := by first | exact Or.inl ((kq 11 (by decide)).mp c11) | exact Or.inr (Or.inl ((kq 12 (by decide)).mp c17)) | exact Or.inr (Or.inr ((kq 13 (by decide)).mp (Classical.not_not.mp c23)))
        have hl : pg_live T c ∧ T.1 c.1 ≠ 44 := by rcases hk with z | z | z <;> exact pg_kl z (by decide)
        have ha : pg_any T [11, 12, 13] c = true := by rcases hk with z | z | z <;> exact pg_any3 z (by decide)
        refine wq_l 27 d81_26 rfl rfl rfl rfl ?_
        refine wq_gr (ci := 4) (j := 1) (q := 3) 30 d81_27 rfl rfl rfl rfl ?_
        refine wq_k 32 8 d81_30 (by decide) rfl ?_
        refine wq_l 33 d81_32 rfl rfl rfl rfl ?_
        refine wq_gr (ci := 4) (j := 0) (q := 2) 36 d81_33 rfl rfl rfl rfl ?_
        refine wq_v 39 [] d81_36 rfl rfl m46 rfl rfl (Nat.le_of_ble_eq_true rfl) rfl (pk46 hK hR ?_)
        refine wq_l 40 d81_39 rfl rfl rfl rfl ?_
        refine wq_k 42 11 d81_40 (by decide) rfl ?_
        refine wq_a 43 d81_42 rfl rfl ?_
        rw [show nI (pg_k T c) - 11 = nI (pg_k T c - 11) from pk_sub (b := 11) (by omega)]
        refine wq_v 46 [_, _, _] d81_43 rfl rfl m57 rfl rfl (Nat.le_of_ble_eq_true rfl) rfl (pk57 (k := 8) hR (fun σ43 x43 h43 => ?_))
        refine wq_a 47 d81_46 rfl rfl ?_
        refine wq_l 48 d81_47 rfl rfl rfl rfl ?_
        refine wq_gr (ci := 4) (j := 0) (q := 2) 51 d81_48 rfl rfl rfl rfl ?_
        refine wq_v 54 [] d81_51 rfl rfl m47 rfl rfl (Nat.le_of_ble_eq_true rfl) rfl (pk47 hK h43 (hl).1 (hl).2 (fun σ51 h51 => ?_))
        refine wq_g 64 d81_54 (by decide) ?_
        refine wq_rv d81_64 ?_
        exact hQ _ (pc_e h51 (by first | simp only [pg_simple, pg_leaf, pg_ite, pg_tok, if_true, if_false, Bool.false_eq_true, ha] | rfl) (by simp only [pg_simple, pg_leaf, pg_ite, pg_tok, List.append_assoc, List.nil_append, List.append_nil, List.cons_append, List.singleton_append, List.length_append, List.length_cons, List.length_nil, List.length_singleton, if_true, if_false, Bool.false_eq_true, ha]))
theorem pp86 {d : Nat} {T : pg_T} {n : Nat} {σ0 σ : pm_S} {c : pg_C} {l s : List pg_N} {Q : Option Value → pm_S → Prop} (hK : pc_K T n σ0) (hR : pc_R T n σ0 σ c l s) (hQ : ∀ σ', pc_R T n σ0 σ' (pg_const T c).1 l (s ++ (pg_const T c).2) → Q none σ') : pm_call pm_Y0 (d + 2) 86 [.ref 4] σ Q := by
  refine wq_m m86 (Nat.le_of_ble_eq_true rfl) (by decide) rfl ?_
  refine wq_l 1 d86_0 rfl rfl rfl rfl ?_
  refine wq_gr (ci := 4) (j := 0) (q := 2) 4 d86_1 rfl rfl rfl rfl ?_
  refine wq_v 7 [] d86_4 rfl rfl m46 rfl rfl (Nat.le_of_ble_eq_true rfl) rfl (pk46 hK hR ?_)
  refine wq_s 8 d86_7 rfl rfl (Nat.le_of_ble_eq_true rfl) rfl rfl ?_
  refine wq_l 9 d86_8 rfl rfl rfl rfl ?_
  refine wq_gr (ci := 4) (j := 0) (q := 2) 12 d86_9 rfl rfl rfl rfl ?_
  refine wq_k 14 35 d86_12 (by decide) rfl ?_
  refine wq_v 17 [_] d86_14 rfl rfl m51 rfl rfl (Nat.le_of_ble_eq_true rfl) rfl (pk51 (k := 35) hK (by decide) hR ?_)
  refine wq_b 32 20 d86_17 rfl (by decide) rfl (fun c17 => ?_) (fun c17 => ?_)
  · -- pc 32
    have f17 := b2n c17
    have ha : pg_any T [35, 36] c = true ∧ (pg_live T c ∧ T.1 c.1 ≠ 44) := by
      first
        | exact ⟨pg_any3 (pg_isk f17) (by decide), pg_isl f17 (by decide)⟩
        | exact ⟨pg_any3 (pg_isk f29) (by decide), pg_isl f29 (by decide)⟩
    have hl := ha.2
    refine wq_l 33 d86_32 rfl rfl rfl rfl ?_
    refine wq_gr (ci := 4) (j := 1) (q := 3) 36 d86_33 rfl rfl rfl rfl ?_
    refine wq_k 38 31 d86_36 (by decide) rfl ?_
    refine wq_l 39 d86_38 rfl rfl rfl rfl ?_
    refine wq_l 40 d86_39 rfl rfl rfl rfl ?_
    refine wq_gr (ci := 4) (j := 0) (q := 2) 43 d86_40 rfl rfl rfl rfl ?_
    refine wq_k 45 35 d86_43 (by decide) rfl ?_
    refine wq_v 48 [_] d86_45 rfl rfl m51 rfl rfl (Nat.le_of_ble_eq_true rfl) rfl (pk51 (k := 35) hK (by decide) hR ?_)
    refine wq_b 55 51 d86_48 rfl (by decide) rfl (fun c48 => ?_) (fun c48 => ?_)
    · -- pc 55
      have f48 := b2z c48
      refine wq_k 56 0 d86_55 (by decide) rfl ?_
      refine wq_v 59 [_, _, _] d86_56 rfl rfl m57 rfl rfl (Nat.le_of_ble_eq_true rfl) rfl (pk57 (k := 31) hR (fun σ56 x56 h56 => ?_))
      refine wq_a 60 d86_59 rfl rfl ?_
      refine wq_l 61 d86_60 rfl rfl rfl rfl ?_
      refine wq_gr (ci := 4) (j := 0) (q := 2) 64 d86_61 rfl rfl rfl rfl ?_
      refine wq_v 67 [] d86_64 rfl rfl m47 rfl rfl (Nat.le_of_ble_eq_true rfl) rfl (pk47 hK h56 (hl).1 (hl).2 (fun σ64 h64 => ?_))
      refine wq_rv d86_67 ?_
      exact hQ _ (pc_e h64 (by first | simp only [pg_const, pg_leaf, pg_ite, if_true, if_false, Bool.false_eq_true, ha.1, f48] | rfl) (by simp only [pg_const, pg_leaf, pg_ite, List.append_assoc, List.nil_append, List.append_nil, List.cons_append, List.singleton_append, List.length_append, List.length_cons, List.length_nil, List.length_singleton, if_true, if_false, Bool.false_eq_true, ha.1, f48]))
    · -- pc 51
      have f48 := b2n c48
      refine wq_k 52 1 d86_51 (by decide) rfl ?_
      refine wq_g 56 d86_52 (by decide) ?_
      refine wq_v 59 [_, _, _] d86_56 rfl rfl m57 rfl rfl (Nat.le_of_ble_eq_true rfl) rfl (pk57 (k := 31) hR (fun σ56 x56 h56 => ?_))
      refine wq_a 60 d86_59 rfl rfl ?_
      refine wq_l 61 d86_60 rfl rfl rfl rfl ?_
      refine wq_gr (ci := 4) (j := 0) (q := 2) 64 d86_61 rfl rfl rfl rfl ?_
      refine wq_v 67 [] d86_64 rfl rfl m47 rfl rfl (Nat.le_of_ble_eq_true rfl) rfl (pk47 hK h56 (hl).1 (hl).2 (fun σ64 h64 => ?_))
      refine wq_rv d86_67 ?_
      exact hQ _ (pc_e h64 (by first | simp only [pg_const, pg_leaf, pg_ite, if_true, if_false, Bool.false_eq_true, ha.1, f48] | rfl) (by simp only [pg_const, pg_leaf, pg_ite, List.append_assoc, List.nil_append, List.append_nil, List.cons_append, List.singleton_append, List.length_append, List.length_cons, List.length_nil, List.length_singleton, if_true, if_false, Bool.false_eq_true, ha.1, f48]))
  · -- pc 20
    have f17 := b2y c17
    refine wq_l 21 d86_20 rfl rfl rfl rfl ?_
    refine wq_gr (ci := 4) (j := 0) (q := 2) 24 d86_21 rfl rfl rfl rfl ?_
    refine wq_k 26 36 d86_24 (by decide) rfl ?_
    refine wq_v 29 [_] d86_26 rfl rfl m51 rfl rfl (Nat.le_of_ble_eq_true rfl) rfl (pk51 (k := 36) hK (by decide) hR ?_)
    refine wq_b 68 32 d86_29 rfl (by decide) rfl (fun c29 => ?_) (fun c29 => ?_)
    · -- pc 68
      have f29 := b2z c29
      have ha : pg_any T [35, 36] c = false := pg_anyn (by
        intro k hk
        rcases List.mem_cons.mp hk with z | z
        · subst z; exact fun w => by rw [pg_isy w] at f17; cases f17
        rcases List.mem_cons.mp z with z | z
        · subst z; exact fun w => by rw [pg_isy w] at f29; cases f29
        · cases z)
      refine wq_l 69 d86_68 rfl rfl rfl rfl ?_
      refine wq_gr (ci := 4) (j := 0) (q := 2) 72 d86_69 rfl rfl rfl rfl ?_
      refine wq_k 74 61 d86_72 (by decide) rfl ?_
      refine wq_v 77 [_] d86_74 rfl rfl m51 rfl rfl (Nat.le_of_ble_eq_true rfl) rfl (pk51 (k := 61) hK (by decide) hR ?_)
      refine wq_s 78 d86_77 rfl rfl (Nat.le_of_ble_eq_true rfl) rfl rfl ?_
      refine wq_l 79 d86_78 rfl rfl rfl rfl ?_
      refine wq_b 89 82 d86_79 rfl (by decide) rfl (fun c79 => ?_) (fun c79 => ?_)
      · -- pc 89
        have f79 := b2z c79
        refine wq_l 90 d86_89 rfl rfl rfl rfl ?_
        refine wq_gr (ci := 4) (j := 0) (q := 2) 93 d86_90 rfl rfl rfl rfl ?_
        refine wq_v 96 [] d86_93 rfl rfl m48 rfl rfl (Nat.le_of_ble_eq_true rfl) rfl (pk48 hK hR ?_)
        refine wq_s 97 d86_96 rfl rfl (Nat.le_of_ble_eq_true rfl) rfl rfl ?_
        refine wq_l 98 d86_97 rfl rfl rfl rfl ?_
        refine wq_gr (ci := 4) (j := 1) (q := 3) 101 d86_98 rfl rfl rfl rfl ?_
        refine wq_k 103 30 d86_101 (by decide) rfl ?_
        refine wq_l 104 d86_103 rfl rfl rfl rfl ?_
        refine wq_l 105 d86_104 rfl rfl rfl rfl ?_
        refine wq_b 113 108 d86_105 rfl (by decide) rfl (fun c105 => ?_) (fun c105 => ?_)
        · -- pc 113
          have f105 := b2z c105
          refine wq_l 114 d86_113 rfl rfl rfl rfl ?_
          refine wq_v 117 [_, _, _] d86_114 rfl rfl m57 rfl rfl (Nat.le_of_ble_eq_true rfl) rfl (pk57 (k := 30) hR (fun σ114 x114 h114 => ?_))
          refine wq_a 118 d86_117 rfl rfl ?_
          refine wq_l 119 d86_118 rfl rfl rfl rfl ?_
          refine wq_gr (ci := 4) (j := 0) (q := 2) 122 d86_119 rfl rfl rfl rfl ?_
          refine wq_k 124 42 d86_122 (by decide) rfl ?_
          refine wq_v 127 [_] d86_124 rfl rfl m49 rfl rfl (Nat.le_of_ble_eq_true rfl) rfl (pk49 (k := 42) hK (by decide) h114 (fun σ124 h124 => ?_))
          refine wq_rv d86_127 ?_
          first
            | exact absurd (f79.symm.trans f105) (by decide)
            | exact hQ _ (pc_e h124 (by first | simp only [pg_const, pg_leaf, pg_ite, if_true, if_false, Bool.false_eq_true, ha, f79] | rfl) (by simp only [pg_const, pg_leaf, pg_ite, List.append_assoc, List.nil_append, List.append_nil, List.cons_append, List.singleton_append, List.length_append, List.length_cons, List.length_nil, List.length_singleton, if_true, if_false, Bool.false_eq_true, ha, f79]))
        · -- pc 108
          have f105 := b2n c105
          refine wq_l 109 d86_108 rfl rfl rfl rfl ?_
          refine wq_a 110 d86_109 rfl rfl ?_
          refine wq_g 114 d86_110 (by decide) ?_
          refine wq_v 117 [_, _, _] d86_114 rfl rfl m57 rfl rfl (Nat.le_of_ble_eq_true rfl) rfl (pk57 (k := 30) hR (fun σ114 x114 h114 => ?_))
          refine wq_a 118 d86_117 rfl rfl ?_
          refine wq_l 119 d86_118 rfl rfl rfl rfl ?_
          refine wq_gr (ci := 4) (j := 0) (q := 2) 122 d86_119 rfl rfl rfl rfl ?_
          refine wq_k 124 42 d86_122 (by decide) rfl ?_
          refine wq_v 127 [_] d86_124 rfl rfl m49 rfl rfl (Nat.le_of_ble_eq_true rfl) rfl (pk49 (k := 42) hK (by decide) h114 (fun σ124 h124 => ?_))
          refine wq_rv d86_127 ?_
          first
            | exact absurd (f79.symm.trans f105) (by decide)
            | exact hQ _ (pc_e h124 (by first | simp only [pg_const, pg_leaf, pg_ite, if_true, if_false, Bool.false_eq_true, ha, f79] | rfl) (by simp only [pg_const, pg_leaf, pg_ite, List.append_assoc, List.nil_append, List.append_nil, List.cons_append, List.singleton_append, List.length_append, List.length_cons, List.length_nil, List.length_singleton, if_true, if_false, Bool.false_eq_true, ha, f79]))
      · -- pc 82
        have f79 := b2n c79
        refine wq_l 83 d86_82 rfl rfl rfl rfl ?_
        refine wq_gr (ci := 4) (j := 0) (q := 2) 86 d86_83 rfl rfl rfl rfl ?_
        refine wq_v 89 [] d86_86 rfl rfl m47 rfl rfl (Nat.le_of_ble_eq_true rfl) rfl (pk47 hK hR (pg_isl f79 (by decide)).1 (pg_isl f79 (by decide)).2 (fun σ86 h86 => ?_))
        refine wq_l 90 d86_89 rfl rfl rfl rfl ?_
        refine wq_gr (ci := 4) (j := 0) (q := 2) 93 d86_90 rfl rfl rfl rfl ?_
        refine wq_v 96 [] d86_93 rfl rfl m48 rfl rfl (Nat.le_of_ble_eq_true rfl) rfl (pk48 hK h86 ?_)
        refine wq_s 97 d86_96 rfl rfl (Nat.le_of_ble_eq_true rfl) rfl rfl ?_
        refine wq_l 98 d86_97 rfl rfl rfl rfl ?_
        refine wq_gr (ci := 4) (j := 1) (q := 3) 101 d86_98 rfl rfl rfl rfl ?_
        refine wq_k 103 30 d86_101 (by decide) rfl ?_
        refine wq_l 104 d86_103 rfl rfl rfl rfl ?_
        refine wq_l 105 d86_104 rfl rfl rfl rfl ?_
        refine wq_b 113 108 d86_105 rfl (by decide) rfl (fun c105 => ?_) (fun c105 => ?_)
        · -- pc 113
          have f105 := b2z c105
          refine wq_l 114 d86_113 rfl rfl rfl rfl ?_
          refine wq_v 117 [_, _, _] d86_114 rfl rfl m57 rfl rfl (Nat.le_of_ble_eq_true rfl) rfl (pk57 (k := 30) h86 (fun σ114 x114 h114 => ?_))
          refine wq_a 118 d86_117 rfl rfl ?_
          refine wq_l 119 d86_118 rfl rfl rfl rfl ?_
          refine wq_gr (ci := 4) (j := 0) (q := 2) 122 d86_119 rfl rfl rfl rfl ?_
          refine wq_k 124 42 d86_122 (by decide) rfl ?_
          refine wq_v 127 [_] d86_124 rfl rfl m49 rfl rfl (Nat.le_of_ble_eq_true rfl) rfl (pk49 (k := 42) hK (by decide) h114 (fun σ124 h124 => ?_))
          refine wq_rv d86_127 ?_
          first
            | exact absurd (f79.symm.trans f105) (by decide)
            | exact hQ _ (pc_e h124 (by first | simp only [pg_const, pg_leaf, pg_ite, if_true, if_false, Bool.false_eq_true, ha, f79] | rfl) (by simp only [pg_const, pg_leaf, pg_ite, List.append_assoc, List.nil_append, List.append_nil, List.cons_append, List.singleton_append, List.length_append, List.length_cons, List.length_nil, List.length_singleton, if_true, if_false, Bool.false_eq_true, ha, f79]))
        · -- pc 108
          have f105 := b2n c105
          refine wq_l 109 d86_108 rfl rfl rfl rfl ?_
          refine wq_a 110 d86_109 rfl rfl ?_
          refine wq_g 114 d86_110 (by decide) ?_
          refine wq_v 117 [_, _, _] d86_114 rfl rfl m57 rfl rfl (Nat.le_of_ble_eq_true rfl) rfl (pk57 (k := 30) h86 (fun σ114 x114 h114 => ?_))
          refine wq_a 118 d86_117 rfl rfl ?_
          refine wq_l 119 d86_118 rfl rfl rfl rfl ?_
          refine wq_gr (ci := 4) (j := 0) (q := 2) 122 d86_119 rfl rfl rfl rfl ?_
          refine wq_k 124 42 d86_122 (by decide) rfl ?_
          refine wq_v 127 [_] d86_124 rfl rfl m49 rfl rfl (Nat.le_of_ble_eq_true rfl) rfl (pk49 (k := 42) hK (by decide) h114 (fun σ124 h124 => ?_))
          refine wq_rv d86_127 ?_
          first
            | exact absurd (f79.symm.trans f105) (by decide)
            | exact hQ _ (pc_e h124 (by first | simp only [pg_const, pg_leaf, pg_ite, if_true, if_false, Bool.false_eq_true, ha, f79] | rfl) (by simp only [pg_const, pg_leaf, pg_ite, List.append_assoc, List.nil_append, List.append_nil, List.cons_append, List.singleton_append, List.length_append, List.length_cons, List.length_nil, List.length_singleton, if_true, if_false, Bool.false_eq_true, ha, f79]))
    · -- pc 32
      have f29 := b2n c29
      have ha : pg_any T [35, 36] c = true ∧ (pg_live T c ∧ T.1 c.1 ≠ 44) := by
        first
          | exact ⟨pg_any3 (pg_isk f17) (by decide), pg_isl f17 (by decide)⟩
          | exact ⟨pg_any3 (pg_isk f29) (by decide), pg_isl f29 (by decide)⟩
      have hl := ha.2
      refine wq_l 33 d86_32 rfl rfl rfl rfl ?_
      refine wq_gr (ci := 4) (j := 1) (q := 3) 36 d86_33 rfl rfl rfl rfl ?_
      refine wq_k 38 31 d86_36 (by decide) rfl ?_
      refine wq_l 39 d86_38 rfl rfl rfl rfl ?_
      refine wq_l 40 d86_39 rfl rfl rfl rfl ?_
      refine wq_gr (ci := 4) (j := 0) (q := 2) 43 d86_40 rfl rfl rfl rfl ?_
      refine wq_k 45 35 d86_43 (by decide) rfl ?_
      refine wq_v 48 [_] d86_45 rfl rfl m51 rfl rfl (Nat.le_of_ble_eq_true rfl) rfl (pk51 (k := 35) hK (by decide) hR ?_)
      refine wq_b 55 51 d86_48 rfl (by decide) rfl (fun c48 => ?_) (fun c48 => ?_)
      · -- pc 55
        have f48 := b2z c48
        refine wq_k 56 0 d86_55 (by decide) rfl ?_
        refine wq_v 59 [_, _, _] d86_56 rfl rfl m57 rfl rfl (Nat.le_of_ble_eq_true rfl) rfl (pk57 (k := 31) hR (fun σ56 x56 h56 => ?_))
        refine wq_a 60 d86_59 rfl rfl ?_
        refine wq_l 61 d86_60 rfl rfl rfl rfl ?_
        refine wq_gr (ci := 4) (j := 0) (q := 2) 64 d86_61 rfl rfl rfl rfl ?_
        refine wq_v 67 [] d86_64 rfl rfl m47 rfl rfl (Nat.le_of_ble_eq_true rfl) rfl (pk47 hK h56 (hl).1 (hl).2 (fun σ64 h64 => ?_))
        refine wq_rv d86_67 ?_
        exact hQ _ (pc_e h64 (by first | simp only [pg_const, pg_leaf, pg_ite, if_true, if_false, Bool.false_eq_true, ha.1, f48] | rfl) (by simp only [pg_const, pg_leaf, pg_ite, List.append_assoc, List.nil_append, List.append_nil, List.cons_append, List.singleton_append, List.length_append, List.length_cons, List.length_nil, List.length_singleton, if_true, if_false, Bool.false_eq_true, ha.1, f48]))
      · -- pc 51
        have f48 := b2n c48
        refine wq_k 52 1 d86_51 (by decide) rfl ?_
        refine wq_g 56 d86_52 (by decide) ?_
        refine wq_v 59 [_, _, _] d86_56 rfl rfl m57 rfl rfl (Nat.le_of_ble_eq_true rfl) rfl (pk57 (k := 31) hR (fun σ56 x56 h56 => ?_))
        refine wq_a 60 d86_59 rfl rfl ?_
        refine wq_l 61 d86_60 rfl rfl rfl rfl ?_
        refine wq_gr (ci := 4) (j := 0) (q := 2) 64 d86_61 rfl rfl rfl rfl ?_
        refine wq_v 67 [] d86_64 rfl rfl m47 rfl rfl (Nat.le_of_ble_eq_true rfl) rfl (pk47 hK h56 (hl).1 (hl).2 (fun σ64 h64 => ?_))
        refine wq_rv d86_67 ?_
        exact hQ _ (pc_e h64 (by first | simp only [pg_const, pg_leaf, pg_ite, if_true, if_false, Bool.false_eq_true, ha.1, f48] | rfl) (by simp only [pg_const, pg_leaf, pg_ite, List.append_assoc, List.nil_append, List.append_nil, List.cons_append, List.singleton_append, List.length_append, List.length_cons, List.length_nil, List.length_singleton, if_true, if_false, Bool.false_eq_true, ha.1, f48]))
theorem pp85 {d : Nat} {T : pg_T} {n : Nat} {σ0 σ : pm_S} {c : pg_C} {l s : List pg_N} {Q : Option Value → pm_S → Prop} (hK : pc_K T n σ0) (hl : pg_live T c ∧ T.1 c.1 ≠ 44) (hR : pc_R T n σ0 σ c l s) (hQ : ∀ σ', pc_R T n σ0 σ' (pg_array T c).1 l (s ++ (pg_array T c).2) → Q none σ') : pm_call pm_Y0 (d + 3) 85 [.ref 4] σ Q := by
  refine wq_m m85 (Nat.le_of_ble_eq_true rfl) (by decide) rfl ?_
  refine wq_l 1 d85_0 rfl rfl rfl rfl ?_
  refine wq_gr (ci := 4) (j := 1) (q := 3) 4 d85_1 rfl rfl rfl rfl ?_
  refine wq_k 6 9 d85_4 (by decide) rfl ?_
  refine wq_l 7 d85_6 rfl rfl rfl rfl ?_
  refine wq_gr (ci := 4) (j := 0) (q := 2) 10 d85_7 rfl rfl rfl rfl ?_
  refine wq_v 13 [] d85_10 rfl rfl m46 rfl rfl (Nat.le_of_ble_eq_true rfl) rfl (pk46 hK hR ?_)
  refine wq_k 14 0 d85_13 (by decide) rfl ?_
  refine wq_v 17 [_, _, _] d85_14 rfl rfl m57 rfl rfl (Nat.le_of_ble_eq_true rfl) rfl (pk57o (k := 9) hR (fun σ14 x14 hx14 h14 => ?_))
  refine wq_s 18 d85_17 rfl rfl (Nat.le_of_ble_eq_true rfl) rfl rfl ?_
  refine wq_l 19 d85_18 rfl rfl rfl rfl ?_
  refine wq_gr (ci := 4) (j := 0) (q := 2) 22 d85_19 rfl rfl rfl rfl ?_
  refine wq_v 25 [] d85_22 rfl rfl m47 rfl rfl (Nat.le_of_ble_eq_true rfl) rfl (pk47 hK h14 (hl).1 (hl).2 (fun σ22 h22 => ?_))
  refine wq_l 26 d85_25 rfl rfl rfl rfl ?_
  refine wq_gr (ci := 4) (j := 0) (q := 2) 29 d85_26 rfl rfl rfl rfl ?_
  refine wq_k 31 54 d85_29 (by decide) rfl ?_
  refine wq_v 34 [_] d85_31 rfl rfl m49 rfl rfl (Nat.le_of_ble_eq_true rfl) rfl (pk49 (k := 54) hK (by decide) h22 (fun σ31 h31 => ?_))
  refine wq_l 35 d85_34 rfl rfl rfl rfl ?_
  refine wq_v 38 [] d85_35 rfl rfl m86 rfl rfl (Nat.le_of_ble_eq_true rfl) rfl (pp86 hK h31 (fun σ35 h35 => ?_))
  refine wq_l 39 d85_38 rfl rfl rfl rfl ?_
  refine wq_gr (ci := 4) (j := 0) (q := 2) 42 d85_39 rfl rfl rfl rfl ?_
  refine wq_k 44 48 d85_42 (by decide) rfl ?_
  refine wq_v 47 [_] d85_44 rfl rfl m49 rfl rfl (Nat.le_of_ble_eq_true rfl) rfl (pk49 (k := 48) hK (by decide) h35 (fun σ44 h44 => ?_))
  refine wq_l 48 d85_47 rfl rfl rfl rfl ?_
  refine wq_v 51 [] d85_48 rfl rfl m86 rfl rfl (Nat.le_of_ble_eq_true rfl) rfl (pp86 hK h44 (fun σ48 h48 => ?_))
  refine wq_l 52 d85_51 rfl rfl rfl rfl ?_
  refine wq_gr (ci := 4) (j := 0) (q := 2) 55 d85_52 rfl rfl rfl rfl ?_
  refine wq_k 57 55 d85_55 (by decide) rfl ?_
  refine wq_v 60 [_] d85_57 rfl rfl m49 rfl rfl (Nat.le_of_ble_eq_true rfl) rfl (pk49 (k := 55) hK (by decide) h48 (fun σ57 h57 => ?_))
  refine wq_l 61 d85_60 rfl rfl rfl rfl ?_
  refine wq_gr (ci := 4) (j := 0) (q := 2) 64 d85_61 rfl rfl rfl rfl ?_
  refine wq_k 66 15 d85_64 (by decide) rfl ?_
  refine wq_v 69 [_] d85_66 rfl rfl m49 rfl rfl (Nat.le_of_ble_eq_true rfl) rfl (pk49 (k := 15) hK (by decide) h57 (fun σ66 h66 => ?_))
  refine wq_l 70 d85_69 rfl rfl rfl rfl ?_
  refine wq_v 73 [] d85_70 rfl rfl m81 rfl rfl (Nat.le_of_ble_eq_true rfl) rfl (pp81 hK h66 (fun σ70 h70 => ?_))
  refine wq_l 74 d85_73 rfl rfl rfl rfl ?_
  refine wq_gr (ci := 4) (j := 1) (q := 3) 77 d85_74 rfl rfl rfl rfl ?_
  refine wq_l 78 d85_77 rfl rfl rfl rfl ?_
  refine wq_v 81 [_] d85_78 rfl rfl m59 rfl rfl (Nat.le_of_ble_eq_true rfl) rfl (pk59 hx14 h70 (fun σ78 h78 => ?_))
  refine wq_rv d85_81 ?_
  exact hQ _ (pc_e h78 (by first | simp only [pg_array, pg_node, pg_seq, pg_tok, if_true, if_false, Bool.false_eq_true] | rfl) (by simp only [pg_array, pg_node, pg_seq, pg_tok, List.append_assoc, List.nil_append, List.append_nil, List.cons_append, List.singleton_append, List.length_append, List.length_cons, List.length_nil, List.length_singleton, if_true, if_false, Bool.false_eq_true]))
theorem pp90 {d : Nat} {T : pg_T} {n : Nat} {σ0 σ : pm_S} {c : pg_C} {l s : List pg_N} {Q : Option Value → pm_S → Prop} {x y z : Nat} (hK : pc_K T n σ0) (hx : x < 100 ∧ y < 100 ∧ z < 100) (hR : pc_R T n σ0 σ c l s) (hQ : Q (some (.int (nI (pg_mark T x y z c)))) σ) : pm_call pm_Y0 (d + 2) 90 [.ref 4, .int (nI x), .int (nI y), .int (nI z)] σ Q := by
  have kq : ∀ k, k < 100 → (nI (pg_k T c) = nI k ↔ pg_k T c = k) := fun k hk => pc_kq hK hk
  have hy : ∀ k, k < 100 → nI (pg_k T c) = nI k → pg_is T k c = true := fun k hk w => pg_isy ((kq k hk).mp w)
  have hn : ∀ k, k < 100 → ¬ nI (pg_k T c) = nI k → pg_is T k c = false := fun k hk w => by
    cases e : pg_is T k c with
    | false => rfl
    | true => exact absurd ((kq k hk).mpr (pg_isk e)) w
  unfold pg_mark at hQ
  refine wq_m m90 (Nat.le_of_ble_eq_true rfl) (by decide) rfl ?_
  refine wq_l 1 d90_0 rfl rfl rfl rfl ?_
  refine wq_gr (ci := 4) (j := 0) (q := 2) 4 d90_1 rfl rfl rfl rfl ?_
  refine wq_v 7 [] d90_4 rfl rfl m45 rfl rfl (Nat.le_of_ble_eq_true rfl) rfl (pk45 hR ?_)
  refine wq_s 9 d90_7 rfl rfl (Nat.le_of_ble_eq_true rfl) rfl rfl ?_
  refine wq_l 11 d90_9 rfl rfl rfl rfl ?_
  refine wq_l 12 d90_11 rfl rfl rfl rfl ?_
  refine wq_b 17 15 d90_12 rfl (by decide) rfl (fun c12 => ?_) (fun c12 => ?_)
  · -- pc 17
    refine wq_l 19 d90_17 rfl rfl rfl rfl ?_
    refine wq_l 20 d90_19 rfl rfl rfl rfl ?_
    refine wq_b 25 23 d90_20 rfl (by decide) rfl (fun c20 => ?_) (fun c20 => ?_)
    · -- pc 25
      refine wq_l 27 d90_25 rfl rfl rfl rfl ?_
      refine wq_l 28 d90_27 rfl rfl rfl rfl ?_
      refine wq_b 35 31 d90_28 rfl (by decide) rfl (fun c28 => ?_) (fun c28 => ?_)
      · -- pc 35
        refine wq_k 36 0 d90_35 (by decide) rfl ?_
        refine wq_ri d90_36 (rfl) ?_
        first
          | (rw [hn x hx.1 c12, hn y hx.2.1 c20, hy z hx.2.2 (Classical.not_not.mp c28)] at hQ; exact hQ)
          | (rw [hn x hx.1 c12, hn y hx.2.1 c20, hn z hx.2.2 c28] at hQ; exact hQ)
      · -- pc 31
        refine wq_k 32 3 d90_31 (by decide) rfl ?_
        refine wq_g 36 d90_32 (by decide) ?_
        refine wq_ri d90_36 (rfl) ?_
        first
          | (rw [hn x hx.1 c12, hn y hx.2.1 c20, hy z hx.2.2 (Classical.not_not.mp c28)] at hQ; exact hQ)
          | (rw [hn x hx.1 c12, hn y hx.2.1 c20, hn z hx.2.2 c28] at hQ; exact hQ)
    · -- pc 23
      refine wq_k 24 2 d90_23 (by decide) rfl ?_
      refine wq_ri d90_24 (rfl) ?_
      rw [hn x hx.1 c12, hy y hx.2.1 (Classical.not_not.mp c20)] at hQ
      exact hQ
  · -- pc 15
    refine wq_k 16 1 d90_15 (by decide) rfl ?_
    refine wq_ri d90_16 (rfl) ?_
    rw [hy x hx.1 (Classical.not_not.mp c12)] at hQ
    exact hQ
theorem pp92 {d : Nat} {T : pg_T} {n : Nat} {σ0 σ : pm_S} {c : pg_C} {l s : List pg_N} {Q : Option Value → pm_S → Prop} (hK : pc_K T n σ0) (hR : pc_R T n σ0 σ c l s) (hQ : ∀ σ', pc_R T n σ0 σ' (pg_nout T c).1 l (s ++ (pg_nout T c).2) → Q none σ') : pm_call pm_Y0 (d + 2) 92 [.ref 4] σ Q := by
  refine wq_m m92 (Nat.le_of_ble_eq_true rfl) (by decide) rfl ?_
  refine wq_l 1 d92_0 rfl rfl rfl rfl ?_
  refine wq_gr (ci := 4) (j := 0) (q := 2) 4 d92_1 rfl rfl rfl rfl ?_
  refine wq_v 7 [] d92_4 rfl rfl m46 rfl rfl (Nat.le_of_ble_eq_true rfl) rfl (pk46 hK hR ?_)
  refine wq_s 8 d92_7 rfl rfl (Nat.le_of_ble_eq_true rfl) rfl rfl ?_
  refine wq_l 9 d92_8 rfl rfl rfl rfl ?_
  refine wq_gr (ci := 4) (j := 0) (q := 2) 12 d92_9 rfl rfl rfl rfl ?_
  refine wq_v 15 [] d92_12 rfl rfl m48 rfl rfl (Nat.le_of_ble_eq_true rfl) rfl (pk48 hK hR ?_)
  refine wq_s 16 d92_15 rfl rfl (Nat.le_of_ble_eq_true rfl) rfl rfl ?_
  refine wq_l 17 d92_16 rfl rfl rfl rfl ?_
  refine wq_gr (ci := 4) (j := 0) (q := 2) 20 d92_17 rfl rfl rfl rfl ?_
  refine wq_k 22 41 d92_20 (by decide) rfl ?_
  refine wq_v 25 [_] d92_22 rfl rfl m49 rfl rfl (Nat.le_of_ble_eq_true rfl) rfl (pk49 (k := 41) hK (by decide) hR (fun σ22 h22 => ?_))
  refine wq_l 26 d92_25 rfl rfl rfl rfl ?_
  refine wq_gr (ci := 4) (j := 0) (q := 2) 29 d92_26 rfl rfl rfl rfl ?_
  refine wq_k 31 59 d92_29 (by decide) rfl ?_
  refine wq_v 34 [_] d92_31 rfl rfl m51 rfl rfl (Nat.le_of_ble_eq_true rfl) rfl (pk51 (k := 59) hK (by decide) h22 ?_)
  refine wq_b 100 37 d92_34 rfl (by decide) rfl (fun c34 => ?_) (fun c34 => ?_)
  · -- pc 100
    have f34 := b2z c34
    refine wq_l 101 d92_100 rfl rfl rfl rfl ?_
    refine wq_gr (ci := 4) (j := 1) (q := 3) 104 d92_101 rfl rfl rfl rfl ?_
    refine wq_k 106 6 d92_104 (by decide) rfl ?_
    refine wq_l 107 d92_106 rfl rfl rfl rfl ?_
    refine wq_l 108 d92_107 rfl rfl rfl rfl ?_
    refine wq_v 111 [_, _, _] d92_108 rfl rfl m57 rfl rfl (Nat.le_of_ble_eq_true rfl) rfl (pk57 (k := 6) h22 (fun σ108 x108 h108 => ?_))
    refine wq_a 112 d92_111 rfl rfl ?_
    refine wq_rv d92_112 ?_
    exact hQ _ (pc_e h108 (by first | simp only [pg_nout, pg_ite, if_true, if_false, Bool.false_eq_true, f34] | rfl) (by simp only [pg_nout, pg_ite, List.append_assoc, List.nil_append, List.append_nil, List.cons_append, List.singleton_append, List.length_append, List.length_cons, List.length_nil, List.length_singleton, if_true, if_false, Bool.false_eq_true, f34]))
  · -- pc 37
    have f34 := b2n c34
    refine wq_l 38 d92_37 rfl rfl rfl rfl ?_
    refine wq_gr (ci := 4) (j := 1) (q := 3) 41 d92_38 rfl rfl rfl rfl ?_
    refine wq_k 43 33 d92_41 (by decide) rfl ?_
    refine wq_l 44 d92_43 rfl rfl rfl rfl ?_
    refine wq_l 45 d92_44 rfl rfl rfl rfl ?_
    refine wq_v 48 [_, _, _] d92_45 rfl rfl m57 rfl rfl (Nat.le_of_ble_eq_true rfl) rfl (pk57o (k := 33) h22 (fun σ45 x45 hx45 h45 => ?_))
    refine wq_s 49 d92_48 rfl rfl (Nat.le_of_ble_eq_true rfl) rfl rfl ?_
    refine wq_l 50 d92_49 rfl rfl rfl rfl ?_
    refine wq_gr (ci := 4) (j := 0) (q := 2) 53 d92_50 rfl rfl rfl rfl ?_
    refine wq_v 56 [] d92_53 rfl rfl m47 rfl rfl (Nat.le_of_ble_eq_true rfl) rfl (pk47 hK h45 (pg_isl f34 (by decide)).1 (pg_isl f34 (by decide)).2 (fun σ53 h53 => ?_))
    refine wq_l 57 d92_56 rfl rfl rfl rfl ?_
    refine wq_gr (ci := 4) (j := 1) (q := 3) 60 d92_57 rfl rfl rfl rfl ?_
    refine wq_k 62 6 d92_60 (by decide) rfl ?_
    refine wq_l 63 d92_62 rfl rfl rfl rfl ?_
    refine wq_gr (ci := 4) (j := 0) (q := 2) 66 d92_63 rfl rfl rfl rfl ?_
    refine wq_v 69 [] d92_66 rfl rfl m46 rfl rfl (Nat.le_of_ble_eq_true rfl) rfl (pk46 hK h53 ?_)
    refine wq_l 70 d92_69 rfl rfl rfl rfl ?_
    refine wq_gr (ci := 4) (j := 0) (q := 2) 73 d92_70 rfl rfl rfl rfl ?_
    refine wq_v 76 [] d92_73 rfl rfl m48 rfl rfl (Nat.le_of_ble_eq_true rfl) rfl (pk48 hK h53 ?_)
    refine wq_v 79 [_, _, _] d92_76 rfl rfl m57 rfl rfl (Nat.le_of_ble_eq_true rfl) rfl (pk57 (k := 6) h53 (fun σ76 x76 h76 => ?_))
    refine wq_a 80 d92_79 rfl rfl ?_
    refine wq_l 81 d92_80 rfl rfl rfl rfl ?_
    refine wq_gr (ci := 4) (j := 0) (q := 2) 84 d92_81 rfl rfl rfl rfl ?_
    refine wq_k 86 41 d92_84 (by decide) rfl ?_
    refine wq_v 89 [_] d92_86 rfl rfl m49 rfl rfl (Nat.le_of_ble_eq_true rfl) rfl (pk49 (k := 41) hK (by decide) h76 (fun σ86 h86 => ?_))
    refine wq_l 90 d92_89 rfl rfl rfl rfl ?_
    refine wq_gr (ci := 4) (j := 1) (q := 3) 93 d92_90 rfl rfl rfl rfl ?_
    refine wq_l 94 d92_93 rfl rfl rfl rfl ?_
    refine wq_v 97 [_] d92_94 rfl rfl m59 rfl rfl (Nat.le_of_ble_eq_true rfl) rfl (pk59 hx45 h86 (fun σ94 h94 => ?_))
    refine wq_g 112 d92_97 (by decide) ?_
    refine wq_rv d92_112 ?_
    exact hQ _ (pc_e h94 (by first | simp only [pg_nout, pg_ite, if_true, if_false, Bool.false_eq_true, f34] | rfl) (by simp only [pg_nout, pg_ite, List.append_assoc, List.nil_append, List.append_nil, List.cons_append, List.singleton_append, List.length_append, List.length_cons, List.length_nil, List.length_singleton, if_true, if_false, Bool.false_eq_true, f34]))
theorem pg_mk0 {T : pg_T} {x y z : Nat} {c : pg_C} (h : ¬ nI (pg_mark T x y z c) = 0) : pg_mark T x y z c ≠ 0 := fun w => h (by rw [w]; rfl)
theorem pg_mk1 {T : pg_T} {x y z : Nat} {c : pg_C} (h : nI (pg_mark T x y z c) = 0) : pg_mark T x y z c = 0 := by
  unfold pg_mark at *
  by_cases q1 : pg_is T x c = true
  · rw [if_pos q1] at h; exact absurd h (by decide)
  rw [if_neg q1] at h ⊢
  by_cases q2 : pg_is T y c = true
  · rw [if_pos q2] at h; exact absurd h (by decide)
  rw [if_neg q2] at h ⊢
  by_cases q3 : pg_is T z c = true
  · rw [if_pos q3] at h; exact absurd h (by decide)
  · rw [if_neg q3]
theorem pg_mkl {T : pg_T} {x y z : Nat} {c : pg_C} (h : pg_mark T x y z c ≠ 0) (hx : (x ≠ 44 ∧ x ≠ 45 ∧ x ≠ 46) ∧ (y ≠ 44 ∧ y ≠ 45 ∧ y ≠ 46) ∧ (z ≠ 44 ∧ z ≠ 45 ∧ z ≠ 46)) : pg_live T c ∧ T.1 c.1 ≠ 44 := by
  unfold pg_mark at h
  by_cases q1 : pg_is T x c = true
  · exact pg_isl q1 hx.1
  · rw [if_neg q1] at h
    by_cases q2 : pg_is T y c = true
    · exact pg_isl q2 hx.2.1
    · rw [if_neg q2] at h
      by_cases q3 : pg_is T z c = true
      · exact pg_isl q3 hx.2.2
      · rw [if_neg q3] at h; exact absurd rfl h
theorem pp91 {d : Nat} {T : pg_T} {n : Nat} {σ0 σ : pm_S} {c : pg_C} {l s : List pg_N} {Q : Option Value → pm_S → Prop} (hK : pc_K T n σ0) (hR : pc_R T n σ0 σ c l s) (hQ : ∀ σ', pc_R T n σ0 σ' (pg_cont T c).1 l (s ++ (pg_cont T c).2) → Q none σ') : pm_call pm_Y0 (d + 3) 91 [.ref 4] σ Q := by
  refine wq_m m91 (Nat.le_of_ble_eq_true rfl) (by decide) rfl ?_
  refine wq_l 1 d91_0 rfl rfl rfl rfl ?_
  refine wq_gr (ci := 4) (j := 1) (q := 3) 4 d91_1 rfl rfl rfl rfl ?_
  refine wq_k 6 25 d91_4 (by decide) rfl ?_
  refine wq_l 7 d91_6 rfl rfl rfl rfl ?_
  refine wq_gr (ci := 4) (j := 0) (q := 2) 10 d91_7 rfl rfl rfl rfl ?_
  refine wq_v 13 [] d91_10 rfl rfl m46 rfl rfl (Nat.le_of_ble_eq_true rfl) rfl (pk46 hK hR ?_)
  refine wq_k 14 0 d91_13 (by decide) rfl ?_
  refine wq_v 17 [_, _, _] d91_14 rfl rfl m57 rfl rfl (Nat.le_of_ble_eq_true rfl) rfl (pk57o (k := 25) hR (fun σ14 x14 hx14 h14 => ?_))
  refine wq_s 18 d91_17 rfl rfl (Nat.le_of_ble_eq_true rfl) rfl rfl ?_
  refine wq_l 19 d91_18 rfl rfl rfl rfl ?_
  refine wq_k 21 63 d91_19 (by decide) rfl ?_
  refine wq_k 23 66 d91_21 (by decide) rfl ?_
  refine wq_k 25 65 d91_23 (by decide) rfl ?_
  refine wq_v 28 [_, _, _] d91_25 rfl rfl m90 rfl rfl (Nat.le_of_ble_eq_true rfl) rfl (pp90 (x := 63) (y := 66) (z := 65) hK (by decide) h14 ?_)
  refine wq_s 29 d91_28 rfl rfl (Nat.le_of_ble_eq_true rfl) rfl rfl ?_
  refine wq_l 30 d91_29 rfl rfl rfl rfl ?_
  refine wq_gr (ci := 4) (j := 1) (q := 3) 33 d91_30 rfl rfl rfl rfl ?_
  refine wq_l 34 d91_33 rfl rfl rfl rfl ?_
  refine wq_l 35 d91_34 rfl rfl rfl rfl ?_
  refine wq_v 38 [_, _] d91_35 rfl rfl m58 rfl rfl (Nat.le_of_ble_eq_true rfl) rfl (pk58 hx14 h14 (fun σ35 h35 => ?_))
  refine wq_l 39 d91_38 rfl rfl rfl rfl ?_
  refine wq_b 49 42 d91_39 rfl (by decide) rfl (fun c39 => ?_) (fun c39 => ?_)
  · -- pc 49
    have f39 := pg_mk1 c39
    refine wq_l 50 d91_49 rfl rfl rfl rfl ?_
    refine wq_v 53 [] d91_50 rfl rfl m92 rfl rfl (Nat.le_of_ble_eq_true rfl) rfl (pp92 hK h35 (fun σ50 h50 => ?_))
    refine wq_l 54 d91_53 rfl rfl rfl rfl ?_
    refine wq_gr (ci := 4) (j := 1) (q := 3) 57 d91_54 rfl rfl rfl rfl ?_
    refine wq_l 58 d91_57 rfl rfl rfl rfl ?_
    refine wq_v 61 [_] d91_58 rfl rfl m59 rfl rfl (Nat.le_of_ble_eq_true rfl) rfl (pk59 hx14 h50 (fun σ58 h58 => ?_))
    refine wq_rv d91_61 ?_
    exact hQ _ (pc_e h58 (by first | simp only [pg_cont, pg_node, pg_seq, pg_tok, pg_skm, if_true, if_false, Bool.false_eq_true, f39] | rfl) (by simp only [pg_cont, pg_node, pg_seq, pg_tok, pg_skm, List.append_assoc, List.nil_append, List.append_nil, List.cons_append, List.singleton_append, List.length_append, List.length_cons, List.length_nil, List.length_singleton, if_true, if_false, Bool.false_eq_true, f39]))
  · -- pc 42
    have f39 := pg_mk0 c39
    refine wq_l 43 d91_42 rfl rfl rfl rfl ?_
    refine wq_gr (ci := 4) (j := 0) (q := 2) 46 d91_43 rfl rfl rfl rfl ?_
    refine wq_v 49 [] d91_46 rfl rfl m47 rfl rfl (Nat.le_of_ble_eq_true rfl) rfl (pk47 hK h35 (pg_mkl f39 (by decide)).1 (pg_mkl f39 (by decide)).2 (fun σ46 h46 => ?_))
    refine wq_l 50 d91_49 rfl rfl rfl rfl ?_
    refine wq_v 53 [] d91_50 rfl rfl m92 rfl rfl (Nat.le_of_ble_eq_true rfl) rfl (pp92 hK h46 (fun σ50 h50 => ?_))
    refine wq_l 54 d91_53 rfl rfl rfl rfl ?_
    refine wq_gr (ci := 4) (j := 1) (q := 3) 57 d91_54 rfl rfl rfl rfl ?_
    refine wq_l 58 d91_57 rfl rfl rfl rfl ?_
    refine wq_v 61 [_] d91_58 rfl rfl m59 rfl rfl (Nat.le_of_ble_eq_true rfl) rfl (pk59 hx14 h50 (fun σ58 h58 => ?_))
    refine wq_rv d91_61 ?_
    exact hQ _ (pc_e h58 (by first | simp only [pg_cont, pg_node, pg_seq, pg_tok, pg_skm, if_true, if_false, Bool.false_eq_true, f39] | rfl) (by simp only [pg_cont, pg_node, pg_seq, pg_tok, pg_skm, List.append_assoc, List.nil_append, List.append_nil, List.cons_append, List.singleton_append, List.length_append, List.length_cons, List.length_nil, List.length_singleton, if_true, if_false, Bool.false_eq_true, f39]))
theorem pp89 {d : Nat} {T : pg_T} {n : Nat} {σ0 σ : pm_S} {c : pg_C} {l s : List pg_N} {Q : Option Value → pm_S → Prop} (hK : pc_K T n σ0) (hl : pg_live T c ∧ T.1 c.1 ≠ 44) (hR : pc_R T n σ0 σ c l s) (hQ : ∀ σ', pc_R T n σ0 σ' (pg_coil T c).1 l (s ++ (pg_coil T c).2) → Q none σ') : pm_call pm_Y0 (d + 3) 89 [.ref 4] σ Q := by
  refine wq_m m89 (Nat.le_of_ble_eq_true rfl) (by decide) rfl ?_
  refine wq_l 1 d89_0 rfl rfl rfl rfl ?_
  refine wq_gr (ci := 4) (j := 1) (q := 3) 4 d89_1 rfl rfl rfl rfl ?_
  refine wq_k 6 28 d89_4 (by decide) rfl ?_
  refine wq_l 7 d89_6 rfl rfl rfl rfl ?_
  refine wq_gr (ci := 4) (j := 0) (q := 2) 10 d89_7 rfl rfl rfl rfl ?_
  refine wq_v 13 [] d89_10 rfl rfl m46 rfl rfl (Nat.le_of_ble_eq_true rfl) rfl (pk46 hK hR ?_)
  refine wq_k 14 0 d89_13 (by decide) rfl ?_
  refine wq_v 17 [_, _, _] d89_14 rfl rfl m57 rfl rfl (Nat.le_of_ble_eq_true rfl) rfl (pk57o (k := 28) hR (fun σ14 x14 hx14 h14 => ?_))
  refine wq_s 18 d89_17 rfl rfl (Nat.le_of_ble_eq_true rfl) rfl rfl ?_
  refine wq_l 19 d89_18 rfl rfl rfl rfl ?_
  refine wq_gr (ci := 4) (j := 0) (q := 2) 22 d89_19 rfl rfl rfl rfl ?_
  refine wq_v 25 [] d89_22 rfl rfl m47 rfl rfl (Nat.le_of_ble_eq_true rfl) rfl (pk47 hK h14 (hl).1 (hl).2 (fun σ22 h22 => ?_))
  refine wq_l 26 d89_25 rfl rfl rfl rfl ?_
  refine wq_k 28 63 d89_26 (by decide) rfl ?_
  refine wq_k 30 60 d89_28 (by decide) rfl ?_
  refine wq_k 32 61 d89_30 (by decide) rfl ?_
  refine wq_v 35 [_, _, _] d89_32 rfl rfl m90 rfl rfl (Nat.le_of_ble_eq_true rfl) rfl (pp90 (x := 63) (y := 60) (z := 61) hK (by decide) h22 ?_)
  refine wq_s 36 d89_35 rfl rfl (Nat.le_of_ble_eq_true rfl) rfl rfl ?_
  refine wq_l 37 d89_36 rfl rfl rfl rfl ?_
  refine wq_gr (ci := 4) (j := 1) (q := 3) 40 d89_37 rfl rfl rfl rfl ?_
  refine wq_l 41 d89_40 rfl rfl rfl rfl ?_
  refine wq_l 42 d89_41 rfl rfl rfl rfl ?_
  refine wq_v 45 [_, _] d89_42 rfl rfl m58 rfl rfl (Nat.le_of_ble_eq_true rfl) rfl (pk58 hx14 h22 (fun σ42 h42 => ?_))
  refine wq_l 46 d89_45 rfl rfl rfl rfl ?_
  refine wq_b 56 49 d89_46 rfl (by decide) rfl (fun c46 => ?_) (fun c46 => ?_)
  · -- pc 56
    have f46 := pg_mk1 c46
    refine wq_l 57 d89_56 rfl rfl rfl rfl ?_
    refine wq_v 60 [] d89_57 rfl rfl m84 rfl rfl (Nat.le_of_ble_eq_true rfl) rfl (pp84 hK h42 (fun σ57 h57 => ?_))
    refine wq_l 61 d89_60 rfl rfl rfl rfl ?_
    refine wq_gr (ci := 4) (j := 0) (q := 2) 64 d89_61 rfl rfl rfl rfl ?_
    refine wq_k 66 53 d89_64 (by decide) rfl ?_
    refine wq_v 69 [_] d89_66 rfl rfl m49 rfl rfl (Nat.le_of_ble_eq_true rfl) rfl (pk49 (k := 53) hK (by decide) h57 (fun σ66 h66 => ?_))
    refine wq_l 70 d89_69 rfl rfl rfl rfl ?_
    refine wq_gr (ci := 4) (j := 1) (q := 3) 73 d89_70 rfl rfl rfl rfl ?_
    refine wq_l 74 d89_73 rfl rfl rfl rfl ?_
    refine wq_v 77 [_] d89_74 rfl rfl m59 rfl rfl (Nat.le_of_ble_eq_true rfl) rfl (pk59 hx14 h66 (fun σ74 h74 => ?_))
    refine wq_rv d89_77 ?_
    exact hQ _ (pc_e h74 (by first | simp only [pg_coil, pg_node, pg_seq, pg_tok, pg_skm, if_true, if_false, Bool.false_eq_true, f46] | rfl) (by simp only [pg_coil, pg_node, pg_seq, pg_tok, pg_skm, List.append_assoc, List.nil_append, List.append_nil, List.cons_append, List.singleton_append, List.length_append, List.length_cons, List.length_nil, List.length_singleton, if_true, if_false, Bool.false_eq_true, f46]))
  · -- pc 49
    have f46 := pg_mk0 c46
    refine wq_l 50 d89_49 rfl rfl rfl rfl ?_
    refine wq_gr (ci := 4) (j := 0) (q := 2) 53 d89_50 rfl rfl rfl rfl ?_
    refine wq_v 56 [] d89_53 rfl rfl m47 rfl rfl (Nat.le_of_ble_eq_true rfl) rfl (pk47 hK h42 (pg_mkl f46 (by decide)).1 (pg_mkl f46 (by decide)).2 (fun σ53 h53 => ?_))
    refine wq_l 57 d89_56 rfl rfl rfl rfl ?_
    refine wq_v 60 [] d89_57 rfl rfl m84 rfl rfl (Nat.le_of_ble_eq_true rfl) rfl (pp84 hK h53 (fun σ57 h57 => ?_))
    refine wq_l 61 d89_60 rfl rfl rfl rfl ?_
    refine wq_gr (ci := 4) (j := 0) (q := 2) 64 d89_61 rfl rfl rfl rfl ?_
    refine wq_k 66 53 d89_64 (by decide) rfl ?_
    refine wq_v 69 [_] d89_66 rfl rfl m49 rfl rfl (Nat.le_of_ble_eq_true rfl) rfl (pk49 (k := 53) hK (by decide) h57 (fun σ66 h66 => ?_))
    refine wq_l 70 d89_69 rfl rfl rfl rfl ?_
    refine wq_gr (ci := 4) (j := 1) (q := 3) 73 d89_70 rfl rfl rfl rfl ?_
    refine wq_l 74 d89_73 rfl rfl rfl rfl ?_
    refine wq_v 77 [_] d89_74 rfl rfl m59 rfl rfl (Nat.le_of_ble_eq_true rfl) rfl (pk59 hx14 h66 (fun σ74 h74 => ?_))
    refine wq_rv d89_77 ?_
    exact hQ _ (pc_e h74 (by first | simp only [pg_coil, pg_node, pg_seq, pg_tok, pg_skm, if_true, if_false, Bool.false_eq_true, f46] | rfl) (by simp only [pg_coil, pg_node, pg_seq, pg_tok, pg_skm, List.append_assoc, List.nil_append, List.append_nil, List.cons_append, List.singleton_append, List.length_append, List.length_cons, List.length_nil, List.length_singleton, if_true, if_false, Bool.false_eq_true, f46]))
theorem pp93 {d : Nat} {T : pg_T} {n : Nat} {σ0 σ : pm_S} {c : pg_C} {l s : List pg_N} {Q : Option Value → pm_S → Prop} (hK : pc_K T n σ0) (hR : pc_R T n σ0 σ c l s) (hQ : Q (some (.int (b2 (pg_isc T c)))) σ) : pm_call pm_Y0 (d + 2) 93 [.ref 4] σ Q := by
  have kq : ∀ k, k < 100 → (nI (pg_k T c) = nI k ↔ pg_k T c = k) := fun k hk => pc_kq hK hk
  refine wq_m m93 (Nat.le_of_ble_eq_true rfl) (by decide) rfl ?_
  refine wq_l 1 d93_0 rfl rfl rfl rfl ?_
  refine wq_gr (ci := 4) (j := 0) (q := 2) 4 d93_1 rfl rfl rfl rfl ?_
  refine wq_v 7 [] d93_4 rfl rfl m45 rfl rfl (Nat.le_of_ble_eq_true rfl) rfl (pk45 hR ?_)
  refine wq_lsw [(41, 72), (52, 72), (61, 72), (62, 72), (63, 72), (65, 72), (66, 72)] 74 d93_7 (by decide) (List.forall_mem_cons.mpr ⟨fun e7 => ?_, List.forall_mem_cons.mpr ⟨fun e7 => ?_, List.forall_mem_cons.mpr ⟨fun e7 => ?_, List.forall_mem_cons.mpr ⟨fun e7 => ?_, List.forall_mem_cons.mpr ⟨fun e7 => ?_, List.forall_mem_cons.mpr ⟨fun e7 => ?_, List.forall_mem_cons.mpr ⟨fun e7 => ?_, fun _ h => absurd h List.not_mem_nil⟩⟩⟩⟩⟩⟩⟩) (fun e7 => ?_)
  · -- case 41
    have hk := (kq 41 (by decide)).mp e7
    rw [show pg_isc T c = true from pg_any3 hk (by decide)] at hQ
    refine wq_k 73 1 d93_72 (by decide) rfl ?_
    refine wq_ri d93_73 (rfl) ?_
    exact hQ
  · -- case 52
    have hk := (kq 52 (by decide)).mp e7
    rw [show pg_isc T c = true from pg_any3 hk (by decide)] at hQ
    refine wq_k 73 1 d93_72 (by decide) rfl ?_
    refine wq_ri d93_73 (rfl) ?_
    exact hQ
  · -- case 61
    have hk := (kq 61 (by decide)).mp e7
    rw [show pg_isc T c = true from pg_any3 hk (by decide)] at hQ
    refine wq_k 73 1 d93_72 (by decide) rfl ?_
    refine wq_ri d93_73 (rfl) ?_
    exact hQ
  · -- case 62
    have hk := (kq 62 (by decide)).mp e7
    rw [show pg_isc T c = true from pg_any3 hk (by decide)] at hQ
    refine wq_k 73 1 d93_72 (by decide) rfl ?_
    refine wq_ri d93_73 (rfl) ?_
    exact hQ
  · -- case 63
    have hk := (kq 63 (by decide)).mp e7
    rw [show pg_isc T c = true from pg_any3 hk (by decide)] at hQ
    refine wq_k 73 1 d93_72 (by decide) rfl ?_
    refine wq_ri d93_73 (rfl) ?_
    exact hQ
  · -- case 65
    have hk := (kq 65 (by decide)).mp e7
    rw [show pg_isc T c = true from pg_any3 hk (by decide)] at hQ
    refine wq_k 73 1 d93_72 (by decide) rfl ?_
    refine wq_ri d93_73 (rfl) ?_
    exact hQ
  · -- case 66
    have hk := (kq 66 (by decide)).mp e7
    rw [show pg_isc T c = true from pg_any3 hk (by decide)] at hQ
    refine wq_k 73 1 d93_72 (by decide) rfl ?_
    refine wq_ri d93_73 (rfl) ?_
    exact hQ
  · -- default
    have w7_41 := e7 (41, 72) (by decide)
    have w7_52 := e7 (52, 72) (by decide)
    have w7_61 := e7 (61, 72) (by decide)
    have w7_62 := e7 (62, 72) (by decide)
    have w7_63 := e7 (63, 72) (by decide)
    have w7_65 := e7 (65, 72) (by decide)
    have w7_66 := e7 (66, 72) (by decide)
    refine wq_k 75 0 d93_74 (by decide) rfl ?_
    refine wq_ri d93_75 (rfl) ?_
    rw [show pg_isc T c = false from pg_anyn (by
      intro k hk
      simp only [List.mem_cons, List.not_mem_nil, or_false] at hk
      rcases hk with z | z | z | z | z | z | z <;> subst z <;> intro w
      · exact w7_63 ((kq 63 (by decide)).mpr w)
      · exact w7_66 ((kq 66 (by decide)).mpr w)
      · exact w7_65 ((kq 65 (by decide)).mpr w)
      · exact w7_41 ((kq 41 (by decide)).mpr w)
      · exact w7_61 ((kq 61 (by decide)).mpr w)
      · exact w7_62 ((kq 62 (by decide)).mpr w)
      · exact w7_52 ((kq 52 (by decide)).mpr w))] at hQ
    exact hQ
theorem pp106 {d : Nat} {T : pg_T} {n : Nat} {σ0 σ : pm_S} {c : pg_C} {l s : List pg_N} {Q : Option Value → pm_S → Prop} (hK : pc_K T n σ0) (hR : pc_R T n σ0 σ c l s) (hQ : Q (some (.int (b2 (pg_any T [42, 61, 35, 36] c)))) σ) : pm_call pm_Y0 (d + 2) 106 [.ref 4] σ Q := by
  refine wq_m m106 (Nat.le_of_ble_eq_true rfl) (by decide) rfl ?_
  refine wq_l 1 d106_0 rfl rfl rfl rfl ?_
  refine wq_gr (ci := 4) (j := 0) (q := 2) 4 d106_1 rfl rfl rfl rfl ?_
  refine wq_k 6 42 d106_4 (by decide) rfl ?_
  refine wq_v 9 [_] d106_6 rfl rfl m51 rfl rfl (Nat.le_of_ble_eq_true rfl) rfl (pk51 (k := 42) hK (by decide) hR ?_)
  refine wq_b 48 12 d106_9 rfl (by decide) rfl (fun c9 => ?_) (fun c9 => ?_)
  · -- pc 48
    have f9 := b2n c9
    rw [show pg_any T [42, 61, 35, 36] c = true from by first | exact pg_any3 (pg_isk f9) (by decide) | exact pg_any3 (pg_isk f21) (by decide) | exact pg_any3 (pg_isk f33) (by decide) | exact pg_any3 (pg_isk f45) (by decide)] at hQ
    refine wq_k 49 1 d106_48 (by decide) rfl ?_
    refine wq_g 53 d106_49 (by decide) ?_
    refine wq_ri d106_53 (rfl) ?_
    exact hQ
  · -- pc 12
    have f9 := b2y c9
    refine wq_l 13 d106_12 rfl rfl rfl rfl ?_
    refine wq_gr (ci := 4) (j := 0) (q := 2) 16 d106_13 rfl rfl rfl rfl ?_
    refine wq_k 18 61 d106_16 (by decide) rfl ?_
    refine wq_v 21 [_] d106_18 rfl rfl m51 rfl rfl (Nat.le_of_ble_eq_true rfl) rfl (pk51 (k := 61) hK (by decide) hR ?_)
    refine wq_b 48 24 d106_21 rfl (by decide) rfl (fun c21 => ?_) (fun c21 => ?_)
    · -- pc 48
      have f21 := b2n c21
      rw [show pg_any T [42, 61, 35, 36] c = true from by first | exact pg_any3 (pg_isk f9) (by decide) | exact pg_any3 (pg_isk f21) (by decide) | exact pg_any3 (pg_isk f33) (by decide) | exact pg_any3 (pg_isk f45) (by decide)] at hQ
      refine wq_k 49 1 d106_48 (by decide) rfl ?_
      refine wq_g 53 d106_49 (by decide) ?_
      refine wq_ri d106_53 (rfl) ?_
      exact hQ
    · -- pc 24
      have f21 := b2y c21
      refine wq_l 25 d106_24 rfl rfl rfl rfl ?_
      refine wq_gr (ci := 4) (j := 0) (q := 2) 28 d106_25 rfl rfl rfl rfl ?_
      refine wq_k 30 35 d106_28 (by decide) rfl ?_
      refine wq_v 33 [_] d106_30 rfl rfl m51 rfl rfl (Nat.le_of_ble_eq_true rfl) rfl (pk51 (k := 35) hK (by decide) hR ?_)
      refine wq_b 48 36 d106_33 rfl (by decide) rfl (fun c33 => ?_) (fun c33 => ?_)
      · -- pc 48
        have f33 := b2n c33
        rw [show pg_any T [42, 61, 35, 36] c = true from by first | exact pg_any3 (pg_isk f9) (by decide) | exact pg_any3 (pg_isk f21) (by decide) | exact pg_any3 (pg_isk f33) (by decide) | exact pg_any3 (pg_isk f45) (by decide)] at hQ
        refine wq_k 49 1 d106_48 (by decide) rfl ?_
        refine wq_g 53 d106_49 (by decide) ?_
        refine wq_ri d106_53 (rfl) ?_
        exact hQ
      · -- pc 36
        have f33 := b2y c33
        refine wq_l 37 d106_36 rfl rfl rfl rfl ?_
        refine wq_gr (ci := 4) (j := 0) (q := 2) 40 d106_37 rfl rfl rfl rfl ?_
        refine wq_k 42 36 d106_40 (by decide) rfl ?_
        refine wq_v 45 [_] d106_42 rfl rfl m51 rfl rfl (Nat.le_of_ble_eq_true rfl) rfl (pk51 (k := 36) hK (by decide) hR ?_)
        refine wq_b 52 48 d106_45 rfl (by decide) rfl (fun c45 => ?_) (fun c45 => ?_)
        · -- pc 52
          have f45 := b2z c45
          rw [show pg_any T [42, 61, 35, 36] c = false from pg_anyn (by
            intro k hk
            simp only [List.mem_cons, List.not_mem_nil, or_false] at hk
            rcases hk with z | z | z | z <;> subst z <;> intro w
            · rw [pg_isy w] at f9; cases f9
            · rw [pg_isy w] at f21; cases f21
            · rw [pg_isy w] at f33; cases f33
            · rw [pg_isy w] at f45; cases f45)] at hQ
          refine wq_k 53 0 d106_52 (by decide) rfl ?_
          refine wq_ri d106_53 (rfl) ?_
          exact hQ
        · -- pc 48
          have f45 := b2n c45
          rw [show pg_any T [42, 61, 35, 36] c = true from by first | exact pg_any3 (pg_isk f9) (by decide) | exact pg_any3 (pg_isk f21) (by decide) | exact pg_any3 (pg_isk f33) (by decide) | exact pg_any3 (pg_isk f45) (by decide)] at hQ
          refine wq_k 49 1 d106_48 (by decide) rfl ?_
          refine wq_g 53 d106_49 (by decide) ?_
          refine wq_ri d106_53 (rfl) ?_
          exact hQ
def pg_so : Option Nat → Int32
  | some x => nI x
  | none => -1
theorem pp102 {d : Nat} {T : pg_T} {n : Nat} {σ0 σ : pm_S} {c : pg_C} {l s : List pg_N} {Q : Option Value → pm_S → Prop} (hK : pc_K T n σ0) (hR : pc_R T n σ0 σ c l s) (hQ : Q (some (.int (pg_so (pg_sign (pg_k T c))))) σ) : pm_call pm_Y0 (d + 2) 102 [.ref 4] σ Q := by
  have kq : ∀ k, k < 100 → (nI (pg_k T c) = nI k ↔ pg_k T c = k) := fun k hk => pc_kq hK hk
  have hsg : ∀ k, k < 30 ∨ 67 < k → pg_sign k = none := fun k hk => by
    unfold pg_sign
    repeat' rw [if_neg (by omega)]
  refine wq_m m102 (Nat.le_of_ble_eq_true rfl) (by decide) rfl ?_
  refine wq_l 1 d102_0 rfl rfl rfl rfl ?_
  refine wq_gr (ci := 4) (j := 0) (q := 2) 4 d102_1 rfl rfl rfl rfl ?_
  refine wq_v 7 [] d102_4 rfl rfl m45 rfl rfl (Nat.le_of_ble_eq_true rfl) rfl (pk45 hR ?_)
  refine wq_tw [(30, 172), (31, 174), (32, 176), (33, 205), (34, 208), (35, 208), (36, 208), (37, 208), (38, 208), (39, 208), (40, 208), (41, 208), (42, 208), (43, 208), (44, 208), (45, 208), (46, 208), (47, 208), (48, 208), (49, 187), (50, 190), (51, 180), (52, 208), (53, 208), (54, 208), (55, 208), (56, 208), (57, 208), (58, 208), (59, 208), (60, 193), (61, 196), (62, 199), (63, 202), (64, 178), (65, 182), (66, 184), (67, 176)] 208 d102_7 (by decide) (List.forall_mem_cons.mpr ⟨fun e7 => ?_, List.forall_mem_cons.mpr ⟨fun e7 => ?_, List.forall_mem_cons.mpr ⟨fun e7 => ?_, List.forall_mem_cons.mpr ⟨fun e7 => ?_, List.forall_mem_cons.mpr ⟨fun e7 => ?_, List.forall_mem_cons.mpr ⟨fun e7 => ?_, List.forall_mem_cons.mpr ⟨fun e7 => ?_, List.forall_mem_cons.mpr ⟨fun e7 => ?_, List.forall_mem_cons.mpr ⟨fun e7 => ?_, List.forall_mem_cons.mpr ⟨fun e7 => ?_, List.forall_mem_cons.mpr ⟨fun e7 => ?_, List.forall_mem_cons.mpr ⟨fun e7 => ?_, List.forall_mem_cons.mpr ⟨fun e7 => ?_, List.forall_mem_cons.mpr ⟨fun e7 => ?_, List.forall_mem_cons.mpr ⟨fun e7 => ?_, List.forall_mem_cons.mpr ⟨fun e7 => ?_, List.forall_mem_cons.mpr ⟨fun e7 => ?_, List.forall_mem_cons.mpr ⟨fun e7 => ?_, List.forall_mem_cons.mpr ⟨fun e7 => ?_, List.forall_mem_cons.mpr ⟨fun e7 => ?_, List.forall_mem_cons.mpr ⟨fun e7 => ?_, List.forall_mem_cons.mpr ⟨fun e7 => ?_, List.forall_mem_cons.mpr ⟨fun e7 => ?_, List.forall_mem_cons.mpr ⟨fun e7 => ?_, List.forall_mem_cons.mpr ⟨fun e7 => ?_, List.forall_mem_cons.mpr ⟨fun e7 => ?_, List.forall_mem_cons.mpr ⟨fun e7 => ?_, List.forall_mem_cons.mpr ⟨fun e7 => ?_, List.forall_mem_cons.mpr ⟨fun e7 => ?_, List.forall_mem_cons.mpr ⟨fun e7 => ?_, List.forall_mem_cons.mpr ⟨fun e7 => ?_, List.forall_mem_cons.mpr ⟨fun e7 => ?_, List.forall_mem_cons.mpr ⟨fun e7 => ?_, List.forall_mem_cons.mpr ⟨fun e7 => ?_, List.forall_mem_cons.mpr ⟨fun e7 => ?_, List.forall_mem_cons.mpr ⟨fun e7 => ?_, List.forall_mem_cons.mpr ⟨fun e7 => ?_, List.forall_mem_cons.mpr ⟨fun e7 => ?_, fun _ h => absurd h List.not_mem_nil⟩⟩⟩⟩⟩⟩⟩⟩⟩⟩⟩⟩⟩⟩⟩⟩⟩⟩⟩⟩⟩⟩⟩⟩⟩⟩⟩⟩⟩⟩⟩⟩⟩⟩⟩⟩⟩⟩) (fun e7 => ?_)
  · -- case 30
    have hk30 := (kq 30 (by decide)).mp e7
    rw [hk30] at hQ
    refine wq_k 173 0 d102_172 (by decide) rfl ?_
    refine wq_ri d102_173 (rfl) ?_
    exact hQ
  · -- case 31
    have hk31 := (kq 31 (by decide)).mp e7
    rw [hk31] at hQ
    refine wq_k 175 1 d102_174 (by decide) rfl ?_
    refine wq_ri d102_175 (rfl) ?_
    exact hQ
  · -- case 32
    have hk32 := (kq 32 (by decide)).mp e7
    rw [hk32] at hQ
    refine wq_k 177 2 d102_176 (by decide) rfl ?_
    refine wq_ri d102_177 (rfl) ?_
    exact hQ
  · -- case 33
    have hk33 := (kq 33 (by decide)).mp e7
    rw [hk33] at hQ
    refine wq_k 207 13 d102_205 (by decide) rfl ?_
    refine wq_ri d102_207 (rfl) ?_
    exact hQ
  · -- case 34
    have hk34 := (kq 34 (by decide)).mp e7
    rw [hk34] at hQ
    skip
    refine wq_k 209 (-1) d102_208 (by decide) rfl ?_
    refine wq_ri d102_209 (rfl) ?_
    first
      | exact hQ
      | (have hd : pg_sign (pg_k T c) = none := hsg _ (by
           rcases Nat.lt_or_ge (pg_k T c) 30 with z | z
           · exact Or.inl z
           rcases Nat.lt_or_ge 67 (pg_k T c) with w | w
           · exact Or.inr w
           exfalso
           have e := nI_toInt (n := pg_k T c) (by omega)
           simp only [i_eq, Int32.reduceToInt, e] at *
           omega)
         rw [hd] at hQ
         exact hQ)
  · -- case 35
    have hk35 := (kq 35 (by decide)).mp e7
    rw [hk35] at hQ
    skip
    refine wq_k 209 (-1) d102_208 (by decide) rfl ?_
    refine wq_ri d102_209 (rfl) ?_
    first
      | exact hQ
      | (have hd : pg_sign (pg_k T c) = none := hsg _ (by
           rcases Nat.lt_or_ge (pg_k T c) 30 with z | z
           · exact Or.inl z
           rcases Nat.lt_or_ge 67 (pg_k T c) with w | w
           · exact Or.inr w
           exfalso
           have e := nI_toInt (n := pg_k T c) (by omega)
           simp only [i_eq, Int32.reduceToInt, e] at *
           omega)
         rw [hd] at hQ
         exact hQ)
  · -- case 36
    have hk36 := (kq 36 (by decide)).mp e7
    rw [hk36] at hQ
    skip
    refine wq_k 209 (-1) d102_208 (by decide) rfl ?_
    refine wq_ri d102_209 (rfl) ?_
    first
      | exact hQ
      | (have hd : pg_sign (pg_k T c) = none := hsg _ (by
           rcases Nat.lt_or_ge (pg_k T c) 30 with z | z
           · exact Or.inl z
           rcases Nat.lt_or_ge 67 (pg_k T c) with w | w
           · exact Or.inr w
           exfalso
           have e := nI_toInt (n := pg_k T c) (by omega)
           simp only [i_eq, Int32.reduceToInt, e] at *
           omega)
         rw [hd] at hQ
         exact hQ)
  · -- case 37
    have hk37 := (kq 37 (by decide)).mp e7
    rw [hk37] at hQ
    skip
    refine wq_k 209 (-1) d102_208 (by decide) rfl ?_
    refine wq_ri d102_209 (rfl) ?_
    first
      | exact hQ
      | (have hd : pg_sign (pg_k T c) = none := hsg _ (by
           rcases Nat.lt_or_ge (pg_k T c) 30 with z | z
           · exact Or.inl z
           rcases Nat.lt_or_ge 67 (pg_k T c) with w | w
           · exact Or.inr w
           exfalso
           have e := nI_toInt (n := pg_k T c) (by omega)
           simp only [i_eq, Int32.reduceToInt, e] at *
           omega)
         rw [hd] at hQ
         exact hQ)
  · -- case 38
    have hk38 := (kq 38 (by decide)).mp e7
    rw [hk38] at hQ
    skip
    refine wq_k 209 (-1) d102_208 (by decide) rfl ?_
    refine wq_ri d102_209 (rfl) ?_
    first
      | exact hQ
      | (have hd : pg_sign (pg_k T c) = none := hsg _ (by
           rcases Nat.lt_or_ge (pg_k T c) 30 with z | z
           · exact Or.inl z
           rcases Nat.lt_or_ge 67 (pg_k T c) with w | w
           · exact Or.inr w
           exfalso
           have e := nI_toInt (n := pg_k T c) (by omega)
           simp only [i_eq, Int32.reduceToInt, e] at *
           omega)
         rw [hd] at hQ
         exact hQ)
  · -- case 39
    have hk39 := (kq 39 (by decide)).mp e7
    rw [hk39] at hQ
    skip
    refine wq_k 209 (-1) d102_208 (by decide) rfl ?_
    refine wq_ri d102_209 (rfl) ?_
    first
      | exact hQ
      | (have hd : pg_sign (pg_k T c) = none := hsg _ (by
           rcases Nat.lt_or_ge (pg_k T c) 30 with z | z
           · exact Or.inl z
           rcases Nat.lt_or_ge 67 (pg_k T c) with w | w
           · exact Or.inr w
           exfalso
           have e := nI_toInt (n := pg_k T c) (by omega)
           simp only [i_eq, Int32.reduceToInt, e] at *
           omega)
         rw [hd] at hQ
         exact hQ)
  · -- case 40
    have hk40 := (kq 40 (by decide)).mp e7
    rw [hk40] at hQ
    skip
    refine wq_k 209 (-1) d102_208 (by decide) rfl ?_
    refine wq_ri d102_209 (rfl) ?_
    first
      | exact hQ
      | (have hd : pg_sign (pg_k T c) = none := hsg _ (by
           rcases Nat.lt_or_ge (pg_k T c) 30 with z | z
           · exact Or.inl z
           rcases Nat.lt_or_ge 67 (pg_k T c) with w | w
           · exact Or.inr w
           exfalso
           have e := nI_toInt (n := pg_k T c) (by omega)
           simp only [i_eq, Int32.reduceToInt, e] at *
           omega)
         rw [hd] at hQ
         exact hQ)
  · -- case 41
    have hk41 := (kq 41 (by decide)).mp e7
    rw [hk41] at hQ
    skip
    refine wq_k 209 (-1) d102_208 (by decide) rfl ?_
    refine wq_ri d102_209 (rfl) ?_
    first
      | exact hQ
      | (have hd : pg_sign (pg_k T c) = none := hsg _ (by
           rcases Nat.lt_or_ge (pg_k T c) 30 with z | z
           · exact Or.inl z
           rcases Nat.lt_or_ge 67 (pg_k T c) with w | w
           · exact Or.inr w
           exfalso
           have e := nI_toInt (n := pg_k T c) (by omega)
           simp only [i_eq, Int32.reduceToInt, e] at *
           omega)
         rw [hd] at hQ
         exact hQ)
  · -- case 42
    have hk42 := (kq 42 (by decide)).mp e7
    rw [hk42] at hQ
    skip
    refine wq_k 209 (-1) d102_208 (by decide) rfl ?_
    refine wq_ri d102_209 (rfl) ?_
    first
      | exact hQ
      | (have hd : pg_sign (pg_k T c) = none := hsg _ (by
           rcases Nat.lt_or_ge (pg_k T c) 30 with z | z
           · exact Or.inl z
           rcases Nat.lt_or_ge 67 (pg_k T c) with w | w
           · exact Or.inr w
           exfalso
           have e := nI_toInt (n := pg_k T c) (by omega)
           simp only [i_eq, Int32.reduceToInt, e] at *
           omega)
         rw [hd] at hQ
         exact hQ)
  · -- case 43
    have hk43 := (kq 43 (by decide)).mp e7
    rw [hk43] at hQ
    skip
    refine wq_k 209 (-1) d102_208 (by decide) rfl ?_
    refine wq_ri d102_209 (rfl) ?_
    first
      | exact hQ
      | (have hd : pg_sign (pg_k T c) = none := hsg _ (by
           rcases Nat.lt_or_ge (pg_k T c) 30 with z | z
           · exact Or.inl z
           rcases Nat.lt_or_ge 67 (pg_k T c) with w | w
           · exact Or.inr w
           exfalso
           have e := nI_toInt (n := pg_k T c) (by omega)
           simp only [i_eq, Int32.reduceToInt, e] at *
           omega)
         rw [hd] at hQ
         exact hQ)
  · -- case 44
    have hk44 := (kq 44 (by decide)).mp e7
    rw [hk44] at hQ
    skip
    refine wq_k 209 (-1) d102_208 (by decide) rfl ?_
    refine wq_ri d102_209 (rfl) ?_
    first
      | exact hQ
      | (have hd : pg_sign (pg_k T c) = none := hsg _ (by
           rcases Nat.lt_or_ge (pg_k T c) 30 with z | z
           · exact Or.inl z
           rcases Nat.lt_or_ge 67 (pg_k T c) with w | w
           · exact Or.inr w
           exfalso
           have e := nI_toInt (n := pg_k T c) (by omega)
           simp only [i_eq, Int32.reduceToInt, e] at *
           omega)
         rw [hd] at hQ
         exact hQ)
  · -- case 45
    have hk45 := (kq 45 (by decide)).mp e7
    rw [hk45] at hQ
    skip
    refine wq_k 209 (-1) d102_208 (by decide) rfl ?_
    refine wq_ri d102_209 (rfl) ?_
    first
      | exact hQ
      | (have hd : pg_sign (pg_k T c) = none := hsg _ (by
           rcases Nat.lt_or_ge (pg_k T c) 30 with z | z
           · exact Or.inl z
           rcases Nat.lt_or_ge 67 (pg_k T c) with w | w
           · exact Or.inr w
           exfalso
           have e := nI_toInt (n := pg_k T c) (by omega)
           simp only [i_eq, Int32.reduceToInt, e] at *
           omega)
         rw [hd] at hQ
         exact hQ)
  · -- case 46
    have hk46 := (kq 46 (by decide)).mp e7
    rw [hk46] at hQ
    skip
    refine wq_k 209 (-1) d102_208 (by decide) rfl ?_
    refine wq_ri d102_209 (rfl) ?_
    first
      | exact hQ
      | (have hd : pg_sign (pg_k T c) = none := hsg _ (by
           rcases Nat.lt_or_ge (pg_k T c) 30 with z | z
           · exact Or.inl z
           rcases Nat.lt_or_ge 67 (pg_k T c) with w | w
           · exact Or.inr w
           exfalso
           have e := nI_toInt (n := pg_k T c) (by omega)
           simp only [i_eq, Int32.reduceToInt, e] at *
           omega)
         rw [hd] at hQ
         exact hQ)
  · -- case 47
    have hk47 := (kq 47 (by decide)).mp e7
    rw [hk47] at hQ
    skip
    refine wq_k 209 (-1) d102_208 (by decide) rfl ?_
    refine wq_ri d102_209 (rfl) ?_
    first
      | exact hQ
      | (have hd : pg_sign (pg_k T c) = none := hsg _ (by
           rcases Nat.lt_or_ge (pg_k T c) 30 with z | z
           · exact Or.inl z
           rcases Nat.lt_or_ge 67 (pg_k T c) with w | w
           · exact Or.inr w
           exfalso
           have e := nI_toInt (n := pg_k T c) (by omega)
           simp only [i_eq, Int32.reduceToInt, e] at *
           omega)
         rw [hd] at hQ
         exact hQ)
  · -- case 48
    have hk48 := (kq 48 (by decide)).mp e7
    rw [hk48] at hQ
    skip
    refine wq_k 209 (-1) d102_208 (by decide) rfl ?_
    refine wq_ri d102_209 (rfl) ?_
    first
      | exact hQ
      | (have hd : pg_sign (pg_k T c) = none := hsg _ (by
           rcases Nat.lt_or_ge (pg_k T c) 30 with z | z
           · exact Or.inl z
           rcases Nat.lt_or_ge 67 (pg_k T c) with w | w
           · exact Or.inr w
           exfalso
           have e := nI_toInt (n := pg_k T c) (by omega)
           simp only [i_eq, Int32.reduceToInt, e] at *
           omega)
         rw [hd] at hQ
         exact hQ)
  · -- case 49
    have hk49 := (kq 49 (by decide)).mp e7
    rw [hk49] at hQ
    refine wq_k 189 7 d102_187 (by decide) rfl ?_
    refine wq_ri d102_189 (rfl) ?_
    exact hQ
  · -- case 50
    have hk50 := (kq 50 (by decide)).mp e7
    rw [hk50] at hQ
    refine wq_k 192 8 d102_190 (by decide) rfl ?_
    refine wq_ri d102_192 (rfl) ?_
    exact hQ
  · -- case 51
    have hk51 := (kq 51 (by decide)).mp e7
    rw [hk51] at hQ
    refine wq_k 181 4 d102_180 (by decide) rfl ?_
    refine wq_ri d102_181 (rfl) ?_
    exact hQ
  · -- case 52
    have hk52 := (kq 52 (by decide)).mp e7
    rw [hk52] at hQ
    skip
    refine wq_k 209 (-1) d102_208 (by decide) rfl ?_
    refine wq_ri d102_209 (rfl) ?_
    first
      | exact hQ
      | (have hd : pg_sign (pg_k T c) = none := hsg _ (by
           rcases Nat.lt_or_ge (pg_k T c) 30 with z | z
           · exact Or.inl z
           rcases Nat.lt_or_ge 67 (pg_k T c) with w | w
           · exact Or.inr w
           exfalso
           have e := nI_toInt (n := pg_k T c) (by omega)
           simp only [i_eq, Int32.reduceToInt, e] at *
           omega)
         rw [hd] at hQ
         exact hQ)
  · -- case 53
    have hk53 := (kq 53 (by decide)).mp e7
    rw [hk53] at hQ
    skip
    refine wq_k 209 (-1) d102_208 (by decide) rfl ?_
    refine wq_ri d102_209 (rfl) ?_
    first
      | exact hQ
      | (have hd : pg_sign (pg_k T c) = none := hsg _ (by
           rcases Nat.lt_or_ge (pg_k T c) 30 with z | z
           · exact Or.inl z
           rcases Nat.lt_or_ge 67 (pg_k T c) with w | w
           · exact Or.inr w
           exfalso
           have e := nI_toInt (n := pg_k T c) (by omega)
           simp only [i_eq, Int32.reduceToInt, e] at *
           omega)
         rw [hd] at hQ
         exact hQ)
  · -- case 54
    have hk54 := (kq 54 (by decide)).mp e7
    rw [hk54] at hQ
    skip
    refine wq_k 209 (-1) d102_208 (by decide) rfl ?_
    refine wq_ri d102_209 (rfl) ?_
    first
      | exact hQ
      | (have hd : pg_sign (pg_k T c) = none := hsg _ (by
           rcases Nat.lt_or_ge (pg_k T c) 30 with z | z
           · exact Or.inl z
           rcases Nat.lt_or_ge 67 (pg_k T c) with w | w
           · exact Or.inr w
           exfalso
           have e := nI_toInt (n := pg_k T c) (by omega)
           simp only [i_eq, Int32.reduceToInt, e] at *
           omega)
         rw [hd] at hQ
         exact hQ)
  · -- case 55
    have hk55 := (kq 55 (by decide)).mp e7
    rw [hk55] at hQ
    skip
    refine wq_k 209 (-1) d102_208 (by decide) rfl ?_
    refine wq_ri d102_209 (rfl) ?_
    first
      | exact hQ
      | (have hd : pg_sign (pg_k T c) = none := hsg _ (by
           rcases Nat.lt_or_ge (pg_k T c) 30 with z | z
           · exact Or.inl z
           rcases Nat.lt_or_ge 67 (pg_k T c) with w | w
           · exact Or.inr w
           exfalso
           have e := nI_toInt (n := pg_k T c) (by omega)
           simp only [i_eq, Int32.reduceToInt, e] at *
           omega)
         rw [hd] at hQ
         exact hQ)
  · -- case 56
    have hk56 := (kq 56 (by decide)).mp e7
    rw [hk56] at hQ
    skip
    refine wq_k 209 (-1) d102_208 (by decide) rfl ?_
    refine wq_ri d102_209 (rfl) ?_
    first
      | exact hQ
      | (have hd : pg_sign (pg_k T c) = none := hsg _ (by
           rcases Nat.lt_or_ge (pg_k T c) 30 with z | z
           · exact Or.inl z
           rcases Nat.lt_or_ge 67 (pg_k T c) with w | w
           · exact Or.inr w
           exfalso
           have e := nI_toInt (n := pg_k T c) (by omega)
           simp only [i_eq, Int32.reduceToInt, e] at *
           omega)
         rw [hd] at hQ
         exact hQ)
  · -- case 57
    have hk57 := (kq 57 (by decide)).mp e7
    rw [hk57] at hQ
    skip
    refine wq_k 209 (-1) d102_208 (by decide) rfl ?_
    refine wq_ri d102_209 (rfl) ?_
    first
      | exact hQ
      | (have hd : pg_sign (pg_k T c) = none := hsg _ (by
           rcases Nat.lt_or_ge (pg_k T c) 30 with z | z
           · exact Or.inl z
           rcases Nat.lt_or_ge 67 (pg_k T c) with w | w
           · exact Or.inr w
           exfalso
           have e := nI_toInt (n := pg_k T c) (by omega)
           simp only [i_eq, Int32.reduceToInt, e] at *
           omega)
         rw [hd] at hQ
         exact hQ)
  · -- case 58
    have hk58 := (kq 58 (by decide)).mp e7
    rw [hk58] at hQ
    skip
    refine wq_k 209 (-1) d102_208 (by decide) rfl ?_
    refine wq_ri d102_209 (rfl) ?_
    first
      | exact hQ
      | (have hd : pg_sign (pg_k T c) = none := hsg _ (by
           rcases Nat.lt_or_ge (pg_k T c) 30 with z | z
           · exact Or.inl z
           rcases Nat.lt_or_ge 67 (pg_k T c) with w | w
           · exact Or.inr w
           exfalso
           have e := nI_toInt (n := pg_k T c) (by omega)
           simp only [i_eq, Int32.reduceToInt, e] at *
           omega)
         rw [hd] at hQ
         exact hQ)
  · -- case 59
    have hk59 := (kq 59 (by decide)).mp e7
    rw [hk59] at hQ
    skip
    refine wq_k 209 (-1) d102_208 (by decide) rfl ?_
    refine wq_ri d102_209 (rfl) ?_
    first
      | exact hQ
      | (have hd : pg_sign (pg_k T c) = none := hsg _ (by
           rcases Nat.lt_or_ge (pg_k T c) 30 with z | z
           · exact Or.inl z
           rcases Nat.lt_or_ge 67 (pg_k T c) with w | w
           · exact Or.inr w
           exfalso
           have e := nI_toInt (n := pg_k T c) (by omega)
           simp only [i_eq, Int32.reduceToInt, e] at *
           omega)
         rw [hd] at hQ
         exact hQ)
  · -- case 60
    have hk60 := (kq 60 (by decide)).mp e7
    rw [hk60] at hQ
    refine wq_k 195 9 d102_193 (by decide) rfl ?_
    refine wq_ri d102_195 (rfl) ?_
    exact hQ
  · -- case 61
    have hk61 := (kq 61 (by decide)).mp e7
    rw [hk61] at hQ
    refine wq_k 198 10 d102_196 (by decide) rfl ?_
    refine wq_ri d102_198 (rfl) ?_
    exact hQ
  · -- case 62
    have hk62 := (kq 62 (by decide)).mp e7
    rw [hk62] at hQ
    refine wq_k 201 11 d102_199 (by decide) rfl ?_
    refine wq_ri d102_201 (rfl) ?_
    exact hQ
  · -- case 63
    have hk63 := (kq 63 (by decide)).mp e7
    rw [hk63] at hQ
    refine wq_k 204 12 d102_202 (by decide) rfl ?_
    refine wq_ri d102_204 (rfl) ?_
    exact hQ
  · -- case 64
    have hk64 := (kq 64 (by decide)).mp e7
    rw [hk64] at hQ
    refine wq_k 179 3 d102_178 (by decide) rfl ?_
    refine wq_ri d102_179 (rfl) ?_
    exact hQ
  · -- case 65
    have hk65 := (kq 65 (by decide)).mp e7
    rw [hk65] at hQ
    refine wq_k 183 5 d102_182 (by decide) rfl ?_
    refine wq_ri d102_183 (rfl) ?_
    exact hQ
  · -- case 66
    have hk66 := (kq 66 (by decide)).mp e7
    rw [hk66] at hQ
    refine wq_k 186 6 d102_184 (by decide) rfl ?_
    refine wq_ri d102_186 (rfl) ?_
    exact hQ
  · -- case 67
    have hk67 := (kq 67 (by decide)).mp e7
    rw [hk67] at hQ
    refine wq_k 177 2 d102_176 (by decide) rfl ?_
    refine wq_ri d102_177 (rfl) ?_
    exact hQ
  · -- default
    have w7_30 := e7 (30, 172) (by decide)
    have w7_31 := e7 (31, 174) (by decide)
    have w7_32 := e7 (32, 176) (by decide)
    have w7_33 := e7 (33, 205) (by decide)
    have w7_34 := e7 (34, 208) (by decide)
    have w7_35 := e7 (35, 208) (by decide)
    have w7_36 := e7 (36, 208) (by decide)
    have w7_37 := e7 (37, 208) (by decide)
    have w7_38 := e7 (38, 208) (by decide)
    have w7_39 := e7 (39, 208) (by decide)
    have w7_40 := e7 (40, 208) (by decide)
    have w7_41 := e7 (41, 208) (by decide)
    have w7_42 := e7 (42, 208) (by decide)
    have w7_43 := e7 (43, 208) (by decide)
    have w7_44 := e7 (44, 208) (by decide)
    have w7_45 := e7 (45, 208) (by decide)
    have w7_46 := e7 (46, 208) (by decide)
    have w7_47 := e7 (47, 208) (by decide)
    have w7_48 := e7 (48, 208) (by decide)
    have w7_49 := e7 (49, 187) (by decide)
    have w7_50 := e7 (50, 190) (by decide)
    have w7_51 := e7 (51, 180) (by decide)
    have w7_52 := e7 (52, 208) (by decide)
    have w7_53 := e7 (53, 208) (by decide)
    have w7_54 := e7 (54, 208) (by decide)
    have w7_55 := e7 (55, 208) (by decide)
    have w7_56 := e7 (56, 208) (by decide)
    have w7_57 := e7 (57, 208) (by decide)
    have w7_58 := e7 (58, 208) (by decide)
    have w7_59 := e7 (59, 208) (by decide)
    have w7_60 := e7 (60, 193) (by decide)
    have w7_61 := e7 (61, 196) (by decide)
    have w7_62 := e7 (62, 199) (by decide)
    have w7_63 := e7 (63, 202) (by decide)
    have w7_64 := e7 (64, 178) (by decide)
    have w7_65 := e7 (65, 182) (by decide)
    have w7_66 := e7 (66, 184) (by decide)
    have w7_67 := e7 (67, 176) (by decide)
    skip
    refine wq_k 209 (-1) d102_208 (by decide) rfl ?_
    refine wq_ri d102_209 (rfl) ?_
    first
      | exact hQ
      | (have hd : pg_sign (pg_k T c) = none := hsg _ (by
           rcases Nat.lt_or_ge (pg_k T c) 30 with z | z
           · exact Or.inl z
           rcases Nat.lt_or_ge 67 (pg_k T c) with w | w
           · exact Or.inr w
           exfalso
           have e := nI_toInt (n := pg_k T c) (by omega)
           simp only [i_eq, Int32.reduceToInt, e] at *
           omega)
         rw [hd] at hQ
         exact hQ)
theorem pp80 {Y : pm_Y} {d : Nat} {σ : pm_S} {k : Nat} {Q : Option Value → pm_S → Prop} (hk : k = 0 ∨ k = 2 ∨ k = 4) (hQ : Q (some (.int (nI (k / 2 + 1)))) σ) : pm_call Y (d + 1) 80 [.int (nI k)] σ Q := by
  rcases hk with rfl | rfl | rfl
  · refine wq_m m80 (Nat.le_of_ble_eq_true rfl) (by decide) rfl ?_
    refine wq_l 1 d80_0 rfl rfl rfl rfl ?_
    refine wq_lsw [(0, 28), (2, 30)] 32 d80_1 (by decide) (List.forall_mem_cons.mpr ⟨fun e1 => ?_, List.forall_mem_cons.mpr ⟨fun e1 => ?_, fun _ h => absurd h List.not_mem_nil⟩⟩) (fun e1 => ?_)
    · -- case 0
      refine wq_k 29 1 d80_28 (by decide) rfl ?_
      refine wq_ri d80_29 (rfl) ?_
      first | exact hQ | exact absurd e1 (by decide) | exact absurd rfl w1_0 | exact absurd rfl w1_2
    · -- case 2
      refine wq_k 31 2 d80_30 (by decide) rfl ?_
      refine wq_ri d80_31 (rfl) ?_
      first | exact hQ | exact absurd e1 (by decide) | exact absurd rfl w1_0 | exact absurd rfl w1_2
    · -- default
      have w1_0 := e1 (0, 28) (by decide)
      have w1_2 := e1 (2, 30) (by decide)
      refine wq_k 33 3 d80_32 (by decide) rfl ?_
      refine wq_ri d80_33 (rfl) ?_
      first | exact hQ | exact absurd e1 (by decide) | exact absurd rfl w1_0 | exact absurd rfl w1_2
  · refine wq_m m80 (Nat.le_of_ble_eq_true rfl) (by decide) rfl ?_
    refine wq_l 1 d80_0 rfl rfl rfl rfl ?_
    refine wq_lsw [(0, 28), (2, 30)] 32 d80_1 (by decide) (List.forall_mem_cons.mpr ⟨fun e1 => ?_, List.forall_mem_cons.mpr ⟨fun e1 => ?_, fun _ h => absurd h List.not_mem_nil⟩⟩) (fun e1 => ?_)
    · -- case 0
      refine wq_k 29 1 d80_28 (by decide) rfl ?_
      refine wq_ri d80_29 (rfl) ?_
      first | exact hQ | exact absurd e1 (by decide) | exact absurd rfl w1_0 | exact absurd rfl w1_2
    · -- case 2
      refine wq_k 31 2 d80_30 (by decide) rfl ?_
      refine wq_ri d80_31 (rfl) ?_
      first | exact hQ | exact absurd e1 (by decide) | exact absurd rfl w1_0 | exact absurd rfl w1_2
    · -- default
      have w1_0 := e1 (0, 28) (by decide)
      have w1_2 := e1 (2, 30) (by decide)
      refine wq_k 33 3 d80_32 (by decide) rfl ?_
      refine wq_ri d80_33 (rfl) ?_
      first | exact hQ | exact absurd e1 (by decide) | exact absurd rfl w1_0 | exact absurd rfl w1_2
  · refine wq_m m80 (Nat.le_of_ble_eq_true rfl) (by decide) rfl ?_
    refine wq_l 1 d80_0 rfl rfl rfl rfl ?_
    refine wq_lsw [(0, 28), (2, 30)] 32 d80_1 (by decide) (List.forall_mem_cons.mpr ⟨fun e1 => ?_, List.forall_mem_cons.mpr ⟨fun e1 => ?_, fun _ h => absurd h List.not_mem_nil⟩⟩) (fun e1 => ?_)
    · -- case 0
      refine wq_k 29 1 d80_28 (by decide) rfl ?_
      refine wq_ri d80_29 (rfl) ?_
      first | exact hQ | exact absurd e1 (by decide) | exact absurd rfl w1_0 | exact absurd rfl w1_2
    · -- case 2
      refine wq_k 31 2 d80_30 (by decide) rfl ?_
      refine wq_ri d80_31 (rfl) ?_
      first | exact hQ | exact absurd e1 (by decide) | exact absurd rfl w1_0 | exact absurd rfl w1_2
    · -- default
      have w1_0 := e1 (0, 28) (by decide)
      have w1_2 := e1 (2, 30) (by decide)
      refine wq_k 33 3 d80_32 (by decide) rfl ?_
      refine wq_ri d80_33 (rfl) ?_
      first | exact hQ | exact absurd e1 (by decide) | exact absurd rfl w1_0 | exact absurd rfl w1_2
