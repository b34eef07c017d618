theorem d289_0 : decode prog_14_method_82_code 0 = .ok (.aload_n 0, 1) := by decide +kernel
theorem d289_1 : decode prog_14_method_82_code 1 = .ok (.getfield 47, 3) := by decide +kernel
theorem d289_4 : decode prog_14_method_82_code 4 = .ok (.iload_n 1, 1) := by decide +kernel
theorem d289_5 : decode prog_14_method_82_code 5 = .ok (.iaload, 1) := by decide +kernel
theorem d289_6 : decode prog_14_method_82_code 6 = .ok (.istore_n 3, 1) := by decide +kernel
theorem d289_7 : decode prog_14_method_82_code 7 = .ok (.iload_n 3, 1) := by decide +kernel
theorem d289_8 : decode prog_14_method_82_code 8 = .ok (.ifCond .lt 36, 3) := by decide +kernel
theorem d289_11 : decode prog_14_method_82_code 11 = .ok (.aload_n 0, 1) := by decide +kernel
theorem d289_12 : decode prog_14_method_82_code 12 = .ok (.getfield 29, 3) := by decide +kernel
theorem d289_15 : decode prog_14_method_82_code 15 = .ok (.iload_n 3, 1) := by decide +kernel
theorem d289_16 : decode prog_14_method_82_code 16 = .ok (.iaload, 1) := by decide +kernel
theorem d289_17 : decode prog_14_method_82_code 17 = .ok (.bipush 19, 2) := by decide +kernel
theorem d289_19 : decode prog_14_method_82_code 19 = .ok (.if_icmp .ne 15, 3) := by decide +kernel
theorem d289_22 : decode prog_14_method_82_code 22 = .ok (.aload_n 0, 1) := by decide +kernel
theorem d289_23 : decode prog_14_method_82_code 23 = .ok (.getfield 35, 3) := by decide +kernel
theorem d289_26 : decode prog_14_method_82_code 26 = .ok (.iload_n 3, 1) := by decide +kernel
theorem d289_27 : decode prog_14_method_82_code 27 = .ok (.iaload, 1) := by decide +kernel
theorem d289_28 : decode prog_14_method_82_code 28 = .ok (.iload_n 2, 1) := by decide +kernel
theorem d289_29 : decode prog_14_method_82_code 29 = .ok (.if_icmp .ne 5, 3) := by decide +kernel
theorem d289_32 : decode prog_14_method_82_code 32 = .ok (.iconst 1, 1) := by decide +kernel
theorem d289_33 : decode prog_14_method_82_code 33 = .ok (.ireturn, 1) := by decide +kernel
theorem d289_34 : decode prog_14_method_82_code 34 = .ok (.aload_n 0, 1) := by decide +kernel
theorem d289_35 : decode prog_14_method_82_code 35 = .ok (.getfield 47, 3) := by decide +kernel
theorem d289_38 : decode prog_14_method_82_code 38 = .ok (.iload_n 3, 1) := by decide +kernel
theorem d289_39 : decode prog_14_method_82_code 39 = .ok (.iaload, 1) := by decide +kernel
theorem d289_40 : decode prog_14_method_82_code 40 = .ok (.istore_n 3, 1) := by decide +kernel
theorem d289_41 : decode prog_14_method_82_code 41 = .ok (.goto (-34), 3) := by decide +kernel
theorem d289_44 : decode prog_14_method_82_code 44 = .ok (.iconst 0, 1) := by decide +kernel
theorem d289_45 : decode prog_14_method_82_code 45 = .ok (.ireturn, 1) := by decide +kernel
theorem m289 : pm_m 289 = some (⟨"TypeRulesModel", "isLoops", "(II)Z"⟩, prog_14_method_82_code, 4, (some FieldType.boolean), 10, 2, 11) := rfl
theorem d301_0 : decode prog_14_method_110_code 0 = .ok (.aload_n 0, 1) := by decide +kernel
theorem d301_1 : decode prog_14_method_110_code 1 = .ok (.getfield 47, 3) := by decide +kernel
theorem d301_4 : decode prog_14_method_110_code 4 = .ok (.iload_n 1, 1) := by decide +kernel
theorem d301_5 : decode prog_14_method_110_code 5 = .ok (.iaload, 1) := by decide +kernel
theorem d301_6 : decode prog_14_method_110_code 6 = .ok (.istore_n 2, 1) := by decide +kernel
theorem d301_7 : decode prog_14_method_110_code 7 = .ok (.iload_n 2, 1) := by decide +kernel
theorem d301_8 : decode prog_14_method_110_code 8 = .ok (.ifCond .lt 24, 3) := by decide +kernel
theorem d301_11 : decode prog_14_method_110_code 11 = .ok (.aload_n 0, 1) := by decide +kernel
theorem d301_12 : decode prog_14_method_110_code 12 = .ok (.getfield 29, 3) := by decide +kernel
theorem d301_15 : decode prog_14_method_110_code 15 = .ok (.iload_n 2, 1) := by decide +kernel
theorem d301_16 : decode prog_14_method_110_code 16 = .ok (.iaload, 1) := by decide +kernel
theorem d301_17 : decode prog_14_method_110_code 17 = .ok (.bipush 19, 2) := by decide +kernel
theorem d301_19 : decode prog_14_method_110_code 19 = .ok (.if_icmp .eq 13, 3) := by decide +kernel
theorem d301_22 : decode prog_14_method_110_code 22 = .ok (.aload_n 0, 1) := by decide +kernel
theorem d301_23 : decode prog_14_method_110_code 23 = .ok (.getfield 47, 3) := by decide +kernel
theorem d301_26 : decode prog_14_method_110_code 26 = .ok (.iload_n 2, 1) := by decide +kernel
theorem d301_27 : decode prog_14_method_110_code 27 = .ok (.iaload, 1) := by decide +kernel
theorem d301_28 : decode prog_14_method_110_code 28 = .ok (.istore_n 2, 1) := by decide +kernel
theorem d301_29 : decode prog_14_method_110_code 29 = .ok (.goto (-22), 3) := by decide +kernel
theorem d301_32 : decode prog_14_method_110_code 32 = .ok (.iload_n 2, 1) := by decide +kernel
theorem d301_33 : decode prog_14_method_110_code 33 = .ok (.ifCond .ge 8, 3) := by decide +kernel
theorem d301_36 : decode prog_14_method_110_code 36 = .ok (.bipush 37, 2) := by decide +kernel
theorem d301_38 : decode prog_14_method_110_code 38 = .ok (.goto 4, 3) := by decide +kernel
theorem d301_41 : decode prog_14_method_110_code 41 = .ok (.iconst 0, 1) := by decide +kernel
theorem d301_42 : decode prog_14_method_110_code 42 = .ok (.ireturn, 1) := by decide +kernel
theorem m301 : pm_m 301 = some (⟨"TypeRulesModel", "exitRule", "(I)I"⟩, prog_14_method_110_code, 3, (some FieldType.int), 10, 1, 11) := rfl
theorem d288_0 : decode prog_14_method_103_code 0 = .ok (.aload_n 0, 1) := by decide +kernel
theorem d288_1 : decode prog_14_method_103_code 1 = .ok (.iload_n 2, 1) := by decide +kernel
theorem d288_2 : decode prog_14_method_103_code 2 = .ok (.invokevirtual 590, 3) := by decide +kernel
theorem d288_5 : decode prog_14_method_103_code 5 = .ok (.istore_n 3, 1) := by decide +kernel
theorem d288_6 : decode prog_14_method_103_code 6 = .ok (.aload_n 0, 1) := by decide +kernel
theorem d288_7 : decode prog_14_method_103_code 7 = .ok (.getfield 98, 3) := by decide +kernel
theorem d288_10 : decode prog_14_method_103_code 10 = .ok (.iload_n 3, 1) := by decide +kernel
theorem d288_11 : decode prog_14_method_103_code 11 = .ok (.iaload, 1) := by decide +kernel
theorem d288_12 : decode prog_14_method_103_code 12 = .ok (.iconst 1, 1) := by decide +kernel
theorem d288_13 : decode prog_14_method_103_code 13 = .ok (.if_icmp .eq 27, 3) := by decide +kernel
theorem d288_16 : decode prog_14_method_103_code 16 = .ok (.aload_n 0, 1) := by decide +kernel
theorem d288_17 : decode prog_14_method_103_code 17 = .ok (.getfield 101, 3) := by decide +kernel
theorem d288_20 : decode prog_14_method_103_code 20 = .ok (.iload_n 3, 1) := by decide +kernel
theorem d288_21 : decode prog_14_method_103_code 21 = .ok (.iaload, 1) := by decide +kernel
theorem d288_22 : decode prog_14_method_103_code 22 = .ok (.ifCond .lt 21, 3) := by decide +kernel
theorem d288_25 : decode prog_14_method_103_code 25 = .ok (.aload_n 0, 1) := by decide +kernel
theorem d288_26 : decode prog_14_method_103_code 26 = .ok (.getfield 101, 3) := by decide +kernel
theorem d288_29 : decode prog_14_method_103_code 29 = .ok (.iload_n 3, 1) := by decide +kernel
theorem d288_30 : decode prog_14_method_103_code 30 = .ok (.iaload, 1) := by decide +kernel
theorem d288_31 : decode prog_14_method_103_code 31 = .ok (.sipush 256, 3) := by decide +kernel
theorem d288_34 : decode prog_14_method_103_code 34 = .ok (.idiv, 1) := by decide +kernel
theorem d288_35 : decode prog_14_method_103_code 35 = .ok (.iconst 3, 1) := by decide +kernel
theorem d288_36 : decode prog_14_method_103_code 36 = .ok (.irem, 1) := by decide +kernel
theorem d288_37 : decode prog_14_method_103_code 37 = .ok (.ifCond .ne 6, 3) := by decide +kernel
theorem d288_40 : decode prog_14_method_103_code 40 = .ok (.bipush 29, 2) := by decide +kernel
theorem d288_42 : decode prog_14_method_103_code 42 = .ok (.ireturn, 1) := by decide +kernel
theorem d288_43 : decode prog_14_method_103_code 43 = .ok (.aload_n 0, 1) := by decide +kernel
theorem d288_44 : decode prog_14_method_103_code 44 = .ok (.iload_n 1, 1) := by decide +kernel
theorem d288_45 : decode prog_14_method_103_code 45 = .ok (.iload_n 2, 1) := by decide +kernel
theorem d288_46 : decode prog_14_method_103_code 46 = .ok (.invokevirtual 621, 3) := by decide +kernel
theorem d288_49 : decode prog_14_method_103_code 49 = .ok (.ifCond .eq 8, 3) := by decide +kernel
theorem d288_52 : decode prog_14_method_103_code 52 = .ok (.bipush 30, 2) := by decide +kernel
theorem d288_54 : decode prog_14_method_103_code 54 = .ok (.goto 4, 3) := by decide +kernel
theorem d288_57 : decode prog_14_method_103_code 57 = .ok (.iconst 0, 1) := by decide +kernel
theorem d288_58 : decode prog_14_method_103_code 58 = .ok (.ireturn, 1) := by decide +kernel
theorem m288 : pm_m 288 = some (⟨"TypeRulesModel", "assignedRule", "(II)I"⟩, prog_14_method_103_code, 4, (some FieldType.int), 10, 2, 11) := rfl
theorem d287_0 : decode prog_14_method_104_code 0 = .ok (.aload_n 0, 1) := by decide +kernel
theorem d287_1 : decode prog_14_method_104_code 1 = .ok (.iload_n 1, 1) := by decide +kernel
theorem d287_2 : decode prog_14_method_104_code 2 = .ok (.aload_n 0, 1) := by decide +kernel
theorem d287_3 : decode prog_14_method_104_code 3 = .ok (.getfield 35, 3) := by decide +kernel
theorem d287_6 : decode prog_14_method_104_code 6 = .ok (.aload_n 0, 1) := by decide +kernel
theorem d287_7 : decode prog_14_method_104_code 7 = .ok (.getfield 38, 3) := by decide +kernel
theorem d287_10 : decode prog_14_method_104_code 10 = .ok (.iload_n 1, 1) := by decide +kernel
theorem d287_11 : decode prog_14_method_104_code 11 = .ok (.iaload, 1) := by decide +kernel
theorem d287_12 : decode prog_14_method_104_code 12 = .ok (.iaload, 1) := by decide +kernel
theorem d287_13 : decode prog_14_method_104_code 13 = .ok (.invokevirtual 624, 3) := by decide +kernel
theorem d287_16 : decode prog_14_method_104_code 16 = .ok (.istore_n 2, 1) := by decide +kernel
theorem d287_17 : decode prog_14_method_104_code 17 = .ok (.iload_n 2, 1) := by decide +kernel
theorem d287_18 : decode prog_14_method_104_code 18 = .ok (.ifCond .le 7, 3) := by decide +kernel
theorem d287_21 : decode prog_14_method_104_code 21 = .ok (.iload_n 2, 1) := by decide +kernel
theorem d287_22 : decode prog_14_method_104_code 22 = .ok (.goto 37, 3) := by decide +kernel
theorem d287_25 : decode prog_14_method_104_code 25 = .ok (.aload_n 0, 1) := by decide +kernel
theorem d287_26 : decode prog_14_method_104_code 26 = .ok (.getfield 50, 3) := by decide +kernel
theorem d287_29 : decode prog_14_method_104_code 29 = .ok (.aload_n 0, 1) := by decide +kernel
theorem d287_30 : decode prog_14_method_104_code 30 = .ok (.getfield 41, 3) := by decide +kernel
theorem d287_33 : decode prog_14_method_104_code 33 = .ok (.iload_n 1, 1) := by decide +kernel
theorem d287_34 : decode prog_14_method_104_code 34 = .ok (.iaload, 1) := by decide +kernel
theorem d287_35 : decode prog_14_method_104_code 35 = .ok (.iaload, 1) := by decide +kernel
theorem d287_36 : decode prog_14_method_104_code 36 = .ok (.aload_n 0, 1) := by decide +kernel
theorem d287_37 : decode prog_14_method_104_code 37 = .ok (.getfield 50, 3) := by decide +kernel
theorem d287_40 : decode prog_14_method_104_code 40 = .ok (.aload_n 0, 1) := by decide +kernel
theorem d287_41 : decode prog_14_method_104_code 41 = .ok (.getfield 38, 3) := by decide +kernel
theorem d287_44 : decode prog_14_method_104_code 44 = .ok (.iload_n 1, 1) := by decide +kernel
theorem d287_45 : decode prog_14_method_104_code 45 = .ok (.iaload, 1) := by decide +kernel
theorem d287_46 : decode prog_14_method_104_code 46 = .ok (.iaload, 1) := by decide +kernel
theorem d287_47 : decode prog_14_method_104_code 47 = .ok (.invokestatic 617, 3) := by decide +kernel
theorem d287_50 : decode prog_14_method_104_code 50 = .ok (.ifCond .eq 7, 3) := by decide +kernel
theorem d287_53 : decode prog_14_method_104_code 53 = .ok (.iconst 0, 1) := by decide +kernel
theorem d287_54 : decode prog_14_method_104_code 54 = .ok (.goto 5, 3) := by decide +kernel
theorem d287_57 : decode prog_14_method_104_code 57 = .ok (.bipush 31, 2) := by decide +kernel
theorem d287_59 : decode prog_14_method_104_code 59 = .ok (.ireturn, 1) := by decide +kernel
theorem m287 : pm_m 287 = some (⟨"TypeRulesModel", "assignmentRule", "(I)I"⟩, prog_14_method_104_code, 3, (some FieldType.int), 10, 1, 11) := rfl
theorem d304_0 : decode prog_14_method_113_code 0 = .ok (.aload_n 0, 1) := by decide +kernel
theorem d304_1 : decode prog_14_method_113_code 1 = .ok (.getfield 44, 3) := by decide +kernel
theorem d304_4 : decode prog_14_method_113_code 4 = .ok (.iload_n 1, 1) := by decide +kernel
theorem d304_5 : decode prog_14_method_113_code 5 = .ok (.iaload, 1) := by decide +kernel
theorem d304_6 : decode prog_14_method_113_code 6 = .ok (.ifCond .lt 6, 3) := by decide +kernel
theorem d304_9 : decode prog_14_method_113_code 9 = .ok (.bipush 39, 2) := by decide +kernel
theorem d304_11 : decode prog_14_method_113_code 11 = .ok (.ireturn, 1) := by decide +kernel
theorem d304_12 : decode prog_14_method_113_code 12 = .ok (.aload_n 0, 1) := by decide +kernel
theorem d304_13 : decode prog_14_method_113_code 13 = .ok (.getfield 50, 3) := by decide +kernel
theorem d304_16 : decode prog_14_method_113_code 16 = .ok (.aload_n 0, 1) := by decide +kernel
theorem d304_17 : decode prog_14_method_113_code 17 = .ok (.getfield 38, 3) := by decide +kernel
theorem d304_20 : decode prog_14_method_113_code 20 = .ok (.iload_n 1, 1) := by decide +kernel
theorem d304_21 : decode prog_14_method_113_code 21 = .ok (.iaload, 1) := by decide +kernel
theorem d304_22 : decode prog_14_method_113_code 22 = .ok (.iaload, 1) := by decide +kernel
theorem d304_23 : decode prog_14_method_113_code 23 = .ok (.ifCond .eq 6, 3) := by decide +kernel
theorem d304_26 : decode prog_14_method_113_code 26 = .ok (.bipush 41, 2) := by decide +kernel
theorem d304_28 : decode prog_14_method_113_code 28 = .ok (.ireturn, 1) := by decide +kernel
theorem d304_29 : decode prog_14_method_113_code 29 = .ok (.aload_n 0, 1) := by decide +kernel
theorem d304_30 : decode prog_14_method_113_code 30 = .ok (.iload_n 1, 1) := by decide +kernel
theorem d304_31 : decode prog_14_method_113_code 31 = .ok (.aload_n 0, 1) := by decide +kernel
theorem d304_32 : decode prog_14_method_113_code 32 = .ok (.getfield 35, 3) := by decide +kernel
theorem d304_35 : decode prog_14_method_113_code 35 = .ok (.aload_n 0, 1) := by decide +kernel
theorem d304_36 : decode prog_14_method_113_code 36 = .ok (.getfield 38, 3) := by decide +kernel
theorem d304_39 : decode prog_14_method_113_code 39 = .ok (.iload_n 1, 1) := by decide +kernel
theorem d304_40 : decode prog_14_method_113_code 40 = .ok (.iaload, 1) := by decide +kernel
theorem d304_41 : decode prog_14_method_113_code 41 = .ok (.iaload, 1) := by decide +kernel
theorem d304_42 : decode prog_14_method_113_code 42 = .ok (.invokevirtual 624, 3) := by decide +kernel
theorem d304_45 : decode prog_14_method_113_code 45 = .ok (.ireturn, 1) := by decide +kernel
theorem m304 : pm_m 304 = some (⟨"TypeRulesModel", "coilRule", "(I)I"⟩, prog_14_method_113_code, 2, (some FieldType.int), 10, 1, 11) := rfl
theorem d291_0 : decode prog_14_method_106_code 0 = .ok (.aload_n 0, 1) := by decide +kernel
theorem d291_1 : decode prog_14_method_106_code 1 = .ok (.aload_n 0, 1) := by decide +kernel
theorem d291_2 : decode prog_14_method_106_code 2 = .ok (.getfield 35, 3) := by decide +kernel
theorem d291_5 : decode prog_14_method_106_code 5 = .ok (.iload_n 1, 1) := by decide +kernel
theorem d291_6 : decode prog_14_method_106_code 6 = .ok (.iaload, 1) := by decide +kernel
theorem d291_7 : decode prog_14_method_106_code 7 = .ok (.iconst 2, 1) := by decide +kernel
theorem d291_8 : decode prog_14_method_106_code 8 = .ok (.invokevirtual 593, 3) := by decide +kernel
theorem d291_11 : decode prog_14_method_106_code 11 = .ok (.istore_n 2, 1) := by decide +kernel
theorem d291_12 : decode prog_14_method_106_code 12 = .ok (.iload_n 2, 1) := by decide +kernel
theorem d291_13 : decode prog_14_method_106_code 13 = .ok (.ifCond .ne 63, 3) := by decide +kernel
theorem d291_16 : decode prog_14_method_106_code 16 = .ok (.aload_n 0, 1) := by decide +kernel
theorem d291_17 : decode prog_14_method_106_code 17 = .ok (.aload_n 0, 1) := by decide +kernel
theorem d291_18 : decode prog_14_method_106_code 18 = .ok (.getfield 35, 3) := by decide +kernel
theorem d291_21 : decode prog_14_method_106_code 21 = .ok (.iload_n 1, 1) := by decide +kernel
theorem d291_22 : decode prog_14_method_106_code 22 = .ok (.iaload, 1) := by decide +kernel
theorem d291_23 : decode prog_14_method_106_code 23 = .ok (.invokevirtual 590, 3) := by decide +kernel
theorem d291_26 : decode prog_14_method_106_code 26 = .ok (.istore_n 3, 1) := by decide +kernel
theorem d291_27 : decode prog_14_method_106_code 27 = .ok (.aload_n 0, 1) := by decide +kernel
theorem d291_28 : decode prog_14_method_106_code 28 = .ok (.getfield 53, 3) := by decide +kernel
theorem d291_31 : decode prog_14_method_106_code 31 = .ok (.iload_n 1, 1) := by decide +kernel
theorem d291_32 : decode prog_14_method_106_code 32 = .ok (.aload_n 0, 1) := by decide +kernel
theorem d291_33 : decode prog_14_method_106_code 33 = .ok (.getfield 104, 3) := by decide +kernel
theorem d291_36 : decode prog_14_method_106_code 36 = .ok (.iload_n 3, 1) := by decide +kernel
theorem d291_37 : decode prog_14_method_106_code 37 = .ok (.iaload, 1) := by decide +kernel
theorem d291_38 : decode prog_14_method_106_code 38 = .ok (.iastore, 1) := by decide +kernel
theorem d291_39 : decode prog_14_method_106_code 39 = .ok (.aload_n 0, 1) := by decide +kernel
theorem d291_40 : decode prog_14_method_106_code 40 = .ok (.getfield 56, 3) := by decide +kernel
theorem d291_43 : decode prog_14_method_106_code 43 = .ok (.iload_n 1, 1) := by decide +kernel
theorem d291_44 : decode prog_14_method_106_code 44 = .ok (.aload_n 0, 1) := by decide +kernel
theorem d291_45 : decode prog_14_method_106_code 45 = .ok (.getfield 95, 3) := by decide +kernel
theorem d291_48 : decode prog_14_method_106_code 48 = .ok (.iload_n 3, 1) := by decide +kernel
theorem d291_49 : decode prog_14_method_106_code 49 = .ok (.iaload, 1) := by decide +kernel
theorem d291_50 : decode prog_14_method_106_code 50 = .ok (.sipush 10000, 3) := by decide +kernel
theorem d291_53 : decode prog_14_method_106_code 53 = .ok (.if_icmp .lt 16, 3) := by decide +kernel
theorem d291_56 : decode prog_14_method_106_code 56 = .ok (.aload_n 0, 1) := by decide +kernel
theorem d291_57 : decode prog_14_method_106_code 57 = .ok (.getfield 95, 3) := by decide +kernel
theorem d291_60 : decode prog_14_method_106_code 60 = .ok (.iload_n 3, 1) := by decide +kernel
theorem d291_61 : decode prog_14_method_106_code 61 = .ok (.iaload, 1) := by decide +kernel
theorem d291_62 : decode prog_14_method_106_code 62 = .ok (.sipush 10000, 3) := by decide +kernel
theorem d291_65 : decode prog_14_method_106_code 65 = .ok (.isub, 1) := by decide +kernel
theorem d291_66 : decode prog_14_method_106_code 66 = .ok (.goto 9, 3) := by decide +kernel
theorem d291_69 : decode prog_14_method_106_code 69 = .ok (.aload_n 0, 1) := by decide +kernel
theorem d291_70 : decode prog_14_method_106_code 70 = .ok (.getfield 95, 3) := by decide +kernel
theorem d291_73 : decode prog_14_method_106_code 73 = .ok (.iload_n 3, 1) := by decide +kernel
theorem d291_74 : decode prog_14_method_106_code 74 = .ok (.iaload, 1) := by decide +kernel
theorem d291_75 : decode prog_14_method_106_code 75 = .ok (.iastore, 1) := by decide +kernel
theorem d291_76 : decode prog_14_method_106_code 76 = .ok (.iload_n 2, 1) := by decide +kernel
theorem d291_77 : decode prog_14_method_106_code 77 = .ok (.ireturn, 1) := by decide +kernel
theorem m291 : pm_m 291 = some (⟨"TypeRulesModel", "invocationRule", "(I)I"⟩, prog_14_method_106_code, 4, (some FieldType.int), 10, 1, 11) := rfl
/-! STATEMENTS of the reference -/
theorem rt_nn {l : List pg_N} {a : Nat → Nat} {R : Int32 → Int32 → Prop} {σ : pm_S} (h : rs_T l a R σ) {c : Nat} (hc : c < l.length) : ¬ nI (a c) < 0 := by
  have := (h.2.2.1 c hc).1
  rw [i_lt, nI_toInt (by omega)]; show ¬ (_ : Int) < 0; omega
theorem rl_lpu {l : List pg_N} {NN c : Nat} {x : Int32} (hG : lg_G l NN) (hc : c < l.length) (hp : 0 < c) : rl_loop l c x = ((rl_k l (rl_par l c) == 19 && decide (rl_v l (rl_par l c) = x)) || rl_loop l (rl_par l c) x) := by
  unfold rl_loop
  rw [(rl_upu hG hc hp).1, List.any_cons]
theorem re289l {d : Nat} {l : List pg_N} {a : Nat → Nat} {R : Int32 → Int32 → Prop} {σ0 σ : pm_S} {fl : Bool} {u : Nat} {A : rl_A} {Q : Option Value → pm_S → Prop} {NN i : Nat} {x r : Int32} (hG : lg_G l NN) (h : rr_I l a R σ0 σ fl u A) (hR : R x r) : ∀ (n c : Nat), c ≤ n → c < l.length → Q (some (.int (b2 (rl_loop l c x)))) σ → pm_WP pm_Y0 (pm_call pm_Y0 (d)) 10 prog_14_method_82_code (some FieldType.boolean) Q 7 [.ref 10, .int (nI (a i)), .int r, .int (if c = 0 then -1 else nI (a (rl_par l c)))] [] σ := by
  intro n
  induction n with
  | zero =>
    intro c hn hc hQ
    have c0 : c = 0 := by omega
    subst c0
    rw [if_pos rfl]
    refine wq_l 8 d289_7 rfl rfl rfl rfl ?_
    refine wq_b 44 11 d289_8 rfl (by decide) rfl (fun c8 => ?_) (fun c8 => absurd (by decide) c8)
    refine wq_k 45 0 d289_44 (by decide) rfl ?_
    refine wq_ri d289_45 (rfl) ?_
    exact hQ
  | succ n ih =>
    intro c hn hc hQ
    by_cases c0 : c = 0
    · exact ih c (by omega) hc hQ
    · rw [if_neg c0]
      obtain ⟨u1, u2⟩ := rl_upu hG hc (by omega)
      have pl : rl_par l c < l.length := by omega
      rw [rl_lpu hG hc (by omega)] at hQ
      have bp := rt_b (rr_T h) pl
      have kk := (lg_V hG pl).1
      have eq := rt_q (rr_T h) hG pl
      generalize rl_par l c = p at *
      refine wq_l 8 d289_7 rfl rfl rfl rfl ?_
      refine wq_b 44 11 d289_8 rfl (by decide) rfl (fun c8 => absurd c8 (rt_nn (rr_T h) pl)) (fun c8 => ?_)
      refine wq_l 12 d289_11 rfl rfl rfl rfl ?_
      refine wq_gr (ci := 10) (j := 16) (q := 49) 15 d289_12 rfl rfl rfl rfl ?_
      refine wq_l 16 d289_15 rfl rfl rfl rfl ?_
      refine wq_al 17 d289_16 rfl rfl rfl (bp) ?_
      rw [rt_k (rr_T h) pl]
      refine wq_k 19 19 d289_17 (by decide) rfl ?_
      refine wq_b 34 22 d289_19 rfl (by decide) rfl (fun c19 => ?_) (fun c19 => ?_)
      · -- pc 34
        refine wq_l 35 d289_34 rfl rfl rfl rfl ?_
        refine wq_gr (ci := 10) (j := 22) (q := 55) 38 d289_35 rfl rfl rfl rfl ?_
        refine wq_l 39 d289_38 rfl rfl rfl rfl ?_
        refine wq_al 40 d289_39 rfl rfl rfl (bp) ?_
        rw [eq]
        refine wq_s 41 d289_40 rfl rfl (Nat.le_of_ble_eq_true rfl) rfl rfl ?_
        refine wq_g 7 d289_41 (by decide) ?_
        rw [show (rl_k l p == 19) = false from beq_false_of_ne (fun z => c19 (by rw [z]; rfl)), Bool.false_and, Bool.false_or] at hQ
        exact ih p (by omega) pl hQ
      · -- pc 22
        have k19 : rl_k l p = 19 := hp_inj (b := 19) (by omega) (by decide) (Classical.not_not.mp c19)
        have Rp := rt_R (rr_T h) pl (by rw [k19]; rfl)
        have vr := (rr_R h).1 _ _ _ _ Rp hR
        refine wq_l 23 d289_22 rfl rfl rfl rfl ?_
        refine wq_gr (ci := 10) (j := 18) (q := 51) 26 d289_23 rfl rfl rfl rfl ?_
        refine wq_l 27 d289_26 rfl rfl rfl rfl ?_
        refine wq_al 28 d289_27 rfl rfl rfl (bp) ?_
        rw [rt_m (rr_T h) pl]
        refine wq_l 29 d289_28 rfl rfl rfl rfl ?_
        refine wq_b 34 32 d289_29 rfl (by decide) rfl (fun c29 => ?_) (fun c29 => ?_)
        · -- pc 34
          refine wq_l 35 d289_34 rfl rfl rfl rfl ?_
          refine wq_gr (ci := 10) (j := 22) (q := 55) 38 d289_35 rfl rfl rfl rfl ?_
          refine wq_l 39 d289_38 rfl rfl rfl rfl ?_
          refine wq_al 40 d289_39 rfl rfl rfl (bp) ?_
          rw [eq]
          refine wq_s 41 d289_40 rfl rfl (Nat.le_of_ble_eq_true rfl) rfl rfl ?_
          refine wq_g 7 d289_41 (by decide) ?_
          rw [show decide (rl_v l p = x) = false from decide_eq_false (fun z => c29 (vr.mp z)), Bool.and_false, Bool.false_or] at hQ
          exact ih p (by omega) pl hQ
        · -- pc 32
          refine wq_k 33 1 d289_32 (by decide) rfl ?_
          refine wq_ri d289_33 (rfl) ?_
          rw [show (rl_k l p == 19) = true from beq_iff_eq.mpr k19, show decide (rl_v l p = x) = true from decide_eq_true (vr.mpr (Classical.not_not.mp c29)), Bool.true_and, Bool.true_or] at hQ
          exact hQ
theorem re289 {d : Nat} {l : List pg_N} {a : Nat → Nat} {R : Int32 → Int32 → Prop} {σ0 σ : pm_S} {fl : Bool} {u : Nat} {A : rl_A} {Q : Option Value → pm_S → Prop} {NN i : Nat} {x r : Int32} (hG : lg_G l NN) (h : rr_I l a R σ0 σ fl u A) (hi : i < l.length) (hR : R x r) (hQ : Q (some (.int (b2 (rl_loop l i x)))) σ) : pm_call pm_Y0 (d + 1) 289 [.ref 10, .int (nI (a i)), .int r] σ Q := by
  refine wq_m m289 (Nat.le_of_ble_eq_true rfl) (by decide) rfl ?_
  refine wq_l 1 d289_0 rfl rfl rfl rfl ?_
  refine wq_gr (ci := 10) (j := 22) (q := 55) 4 d289_1 rfl rfl rfl rfl ?_
  refine wq_l 5 d289_4 rfl rfl rfl rfl ?_
  refine wq_al 6 d289_5 rfl rfl rfl (rt_b (rr_T h) hi) ?_
  rw [rt_q (rr_T h) hG hi]
  refine wq_s 7 d289_6 rfl rfl (Nat.le_of_ble_eq_true rfl) rfl rfl ?_
  exact re289l hG h hR i i (Nat.le_refl _) hi hQ
theorem re301l {d : Nat} {l : List pg_N} {a : Nat → Nat} {R : Int32 → Int32 → Prop} {σ0 σ : pm_S} {fl : Bool} {u : Nat} {A : rl_A} {Q : Option Value → pm_S → Prop} {NN i : Nat} (hG : lg_G l NN) (h : rr_I l a R σ0 σ fl u A) : ∀ (n c : Nat), c ≤ n → c < l.length → Q (some (.int (nI (if ((rl_up l c).any (fun j => rl_k l j == 19)) = true then 0 else 37)))) σ → pm_WP pm_Y0 (pm_call pm_Y0 (d)) 10 prog_14_method_110_code (some FieldType.int) Q 7 [.ref 10, .int (nI (a i)), .int (if c = 0 then -1 else nI (a (rl_par l c)))] [] σ := by
  intro n
  induction n with
  | zero =>
    intro c hn hc hQ
    have c0 : c = 0 := by omega
    subst c0
    rw [if_pos rfl]
    refine wq_l 8 d301_7 rfl rfl rfl rfl ?_
    refine wq_b 32 11 d301_8 rfl (by decide) rfl (fun c8 => ?_) (fun c8 => absurd (by decide) c8)
    refine wq_l 33 d301_32 rfl rfl rfl rfl ?_
    refine wq_b 41 36 d301_33 rfl (by decide) rfl (fun c33 => absurd c33 (by decide)) (fun c33 => ?_)
    refine wq_k 38 37 d301_36 (by decide) rfl ?_
    refine wq_g 42 d301_38 (by decide) ?_
    refine wq_ri d301_42 (rfl) ?_
    exact hQ
  | succ n ih =>
    intro c hn hc hQ
    by_cases c0 : c = 0
    · exact ih c (by omega) hc hQ
    · rw [if_neg c0]
      obtain ⟨u1, u2⟩ := rl_upu hG hc (by omega)
      have pl : rl_par l c < l.length := by omega
      rw [u1, List.any_cons] at hQ
      have bp := rt_b (rr_T h) pl
      have kk := (lg_V hG pl).1
      have eq := rt_q (rr_T h) hG pl
      generalize rl_par l c = p at *
      refine wq_l 8 d301_7 rfl rfl rfl rfl ?_
      refine wq_b 32 11 d301_8 rfl (by decide) rfl (fun c8 => absurd c8 (rt_nn (rr_T h) pl)) (fun c8 => ?_)
      refine wq_l 12 d301_11 rfl rfl rfl rfl ?_
      refine wq_gr (ci := 10) (j := 16) (q := 49) 15 d301_12 rfl rfl rfl rfl ?_
      refine wq_l 16 d301_15 rfl rfl rfl rfl ?_
      refine wq_al 17 d301_16 rfl rfl rfl (bp) ?_
      rw [rt_k (rr_T h) pl]
      refine wq_k 19 19 d301_17 (by decide) rfl ?_
      refine wq_b 32 22 d301_19 rfl (by decide) rfl (fun c19 => ?_) (fun c19 => ?_)
      · -- pc 32
        refine wq_l 33 d301_32 rfl rfl rfl rfl ?_
        refine wq_b 41 36 d301_33 rfl (by decide) rfl (fun c33 => ?_) (fun c33 => absurd (Int32.not_lt.mp (rt_nn (rr_T h) pl)) c33)
        refine wq_k 42 0 d301_41 (by decide) rfl ?_
        refine wq_ri d301_42 (rfl) ?_
        rw [show (rl_k l p == 19) = true from beq_iff_eq.mpr (hp_inj (b := 19) (by omega) (by decide) c19), Bool.true_or, if_pos rfl] at hQ
        exact hQ
      · -- pc 22
        refine wq_l 23 d301_22 rfl rfl rfl rfl ?_
        refine wq_gr (ci := 10) (j := 22) (q := 55) 26 d301_23 rfl rfl rfl rfl ?_
        refine wq_l 27 d301_26 rfl rfl rfl rfl ?_
        refine wq_al 28 d301_27 rfl rfl rfl (bp) ?_
        rw [eq]
        refine wq_s 29 d301_28 rfl rfl (Nat.le_of_ble_eq_true rfl) rfl rfl ?_
        refine wq_g 7 d301_29 (by decide) ?_
        rw [show (rl_k l p == 19) = false from beq_false_of_ne (fun z => c19 (by rw [z]; rfl)), Bool.false_or] at hQ
        exact ih p (by omega) pl hQ
theorem re301 {d : Nat} {l : List pg_N} {a : Nat → Nat} {R : Int32 → Int32 → Prop} {σ0 σ : pm_S} {fl : Bool} {u : Nat} {A : rl_A} {Q : Option Value → pm_S → Prop} {NN i : Nat} (hG : lg_G l NN) (h : rr_I l a R σ0 σ fl u A) (hi : i < l.length) (hQ : rr_Q l a R σ0 fl u (if ((rl_up l i).any (fun j => rl_k l j == 19)) = true then 0 else 37, A) Q) : pm_call pm_Y0 (d + 1) 301 [.ref 10, .int (nI (a i))] σ Q := by
  refine wq_m m301 (Nat.le_of_ble_eq_true rfl) (by decide) rfl ?_
  refine wq_l 1 d301_0 rfl rfl rfl rfl ?_
  refine wq_gr (ci := 10) (j := 22) (q := 55) 4 d301_1 rfl rfl rfl rfl ?_
  refine wq_l 5 d301_4 rfl rfl rfl rfl ?_
  refine wq_al 6 d301_5 rfl rfl rfl (rt_b (rr_T h) hi) ?_
  rw [rt_q (rr_T h) hG hi]
  refine wq_s 7 d301_6 rfl rfl (Nat.le_of_ble_eq_true rfl) rfl rfl ?_
  exact re301l hG h i i (Nat.le_refl _) hi (hQ σ (rr_Fi h) (fun _ => h))
theorem re288 {d : Nat} {l : List pg_N} {a : Nat → Nat} {R : Int32 → Int32 → Prop} {σ0 σ : pm_S} {fl : Bool} {u : Nat} {A : rl_A} {Q : Option Value → pm_S → Prop} {NN i : Nat} {x r : Int32} (hG : lg_G l NN) (h : rr_I l a R σ0 σ fl u A) (hp : pv_B A.1) (hB : A.1 ≠ []) (hs : rl_setl A) (hfd : (rl_find (rl_cur A).2.2.2.2 x).isSome = true) (hi : i < l.length) (hR : R x r) (hQ : Q (some (.int (nI (rl_asg l A i x)))) σ) : pm_call pm_Y0 (d + 3) 288 [.ref 10, .int (nI (a i)), .int r] σ Q := by
  refine wq_m m288 (Nat.le_of_ble_eq_true rfl) (by decide) rfl ?_
  refine wq_l 1 d288_0 rfl rfl rfl rfl ?_
  refine wq_l 2 d288_1 rfl rfl rfl rfl ?_
  refine wq_v 5 [_] d288_2 rfl rfl m283 rfl rfl (Nat.le_of_ble_eq_true rfl) rfl (re283 h hp hB hR (fun e2 => ?_) (fun i2 v2 e2 f2 g2 => ?_))
  · -- fork 2
    rw [e2] at hfd
    exact absurd hfd (by decide)
    -- none
  · -- fork 2
    have m2 := rl_find_m e2
    have s2 := ((h.2.2.2.2.2.1.2.2) i2 v2 f2).2.1 (hs v2 m2)
    have ei := nI_toInt (n := i2) (by omega)
    have ec := nI_clamp (n := i2) (by omega)
    obtain ⟨a1, a2, a3, a4, a5, a6, a7⟩ := (pv_cur hp hB).2.2.2.2.1 v2 m2
    unfold rl_asg at hQ
    rw [rl_vrs e2] at hQ
    refine wq_s 6 d288_5 rfl rfl (Nat.le_of_ble_eq_true rfl) rfl rfl ?_
    refine wq_l 7 d288_6 rfl rfl rfl rfl ?_
    refine wq_gr (ci := 10) (j := 45) (q := 72) 10 d288_7 rfl rfl rfl rfl ?_
    refine wq_l 11 d288_10 rfl rfl rfl rfl ?_
    refine wq_al 12 d288_11 rfl rfl rfl (vp_in_iff.mpr (by rw [ei]; omega)) ?_
    rw [ec, s2.2.2.1]
    refine wq_k 13 1 d288_12 (by decide) rfl ?_
    refine wq_b 40 16 d288_13 rfl (by decide) rfl (fun c13 => ?_) (fun c13 => ?_)
    · -- pc 40
      refine wq_k 42 29 d288_40 (by decide) rfl ?_
      refine wq_ri d288_42 (rfl) ?_
      rw [if_pos (Or.inl (hp_inj (b := 1) (by omega) (by decide) c13))] at hQ
      exact hQ
    · -- pc 16
      have n1 : ¬ v2.2.2.2.1 = 1 := fun z => c13 (by rw [z]; rfl)
      refine wq_l 17 d288_16 rfl rfl rfl rfl ?_
      refine wq_gr (ci := 10) (j := 46) (q := 73) 20 d288_17 rfl rfl rfl rfl ?_
      refine wq_l 21 d288_20 rfl rfl rfl rfl ?_
      refine wq_al 22 d288_21 rfl rfl rfl (vp_in_iff.mpr (by rw [ei]; omega)) ?_
      rw [ec, s2.2.2.2.1]
      refine wq_b 43 25 d288_22 rfl (by decide) rfl (fun c22 => ?_) (fun c22 => ?_)
      · -- pc 43
        refine wq_l 44 d288_43 rfl rfl rfl rfl ?_
        refine wq_l 45 d288_44 rfl rfl rfl rfl ?_
        refine wq_l 46 d288_45 rfl rfl rfl rfl ?_
        refine wq_v 49 [_, _] d288_46 rfl rfl m289 rfl rfl (Nat.le_of_ble_eq_true rfl) rfl (re289 hG h hi hR ?_)
        refine wq_b 57 52 d288_49 rfl (by decide) rfl (fun c49 => ?_) (fun c49 => ?_)
        · -- pc 57
          have f49 := b2z c49
          refine wq_k 58 0 d288_57 (by decide) rfl ?_
          refine wq_ri d288_58 (rfl) ?_
          rw [if_neg (fun z => z.elim n1 (fun y => y.1 (a6.resolve_right (fun q => by obtain ⟨ar, o, o1, o2, o3, o4⟩ := q; rw [o4, i_lt, nI_toInt (by omega)] at c22; have c22 : _ < (0 : Int) := c22; omega)))), f49] at hQ
          exact hQ
        · -- pc 52
          have f49 := b2n c49
          refine wq_k 54 30 d288_52 (by decide) rfl ?_
          refine wq_g 58 d288_54 (by decide) ?_
          refine wq_ri d288_58 (rfl) ?_
          rw [if_neg (fun z => z.elim n1 (fun y => y.1 (a6.resolve_right (fun q => by obtain ⟨ar, o, o1, o2, o3, o4⟩ := q; rw [o4, i_lt, nI_toInt (by omega)] at c22; have c22 : _ < (0 : Int) := c22; omega)))), f49] at hQ
          exact hQ
      · -- pc 25
        obtain ⟨ar, o, o1, o2, o3, o4⟩ := a6.resolve_left (fun z => c22 (by rw [z]; decide))
        have ea := pl_ar o1 o2
        refine wq_l 26 d288_25 rfl rfl rfl rfl ?_
        refine wq_gr (ci := 10) (j := 46) (q := 73) 29 d288_26 rfl rfl rfl rfl ?_
        refine wq_l 30 d288_29 rfl rfl rfl rfl ?_
        refine wq_al 31 d288_30 rfl rfl rfl (vp_in_iff.mpr (by rw [ei]; omega)) ?_
        rw [ec, s2.2.2.2.1, o4]
        refine wq_k 34 256 d288_31 (by decide) rfl ?_
        refine wq_dv 35 d288_34 rfl rfl (by decide) ?_
        refine wq_k 36 3 d288_35 (by decide) rfl ?_
        refine wq_dv 37 d288_36 rfl rfl (by decide) ?_
        rw [show nI (256 * ar + o) / 256 - nI (256 * ar + o) / 256 / 3 * 3 = nI (ar % 3) by rw [show nI (256 * ar + o) / 256 = nI ((256 * ar + o) / 256) from nI_dv (b := 256) (by omega) (by decide), show (256 * ar + o) / 256 = ar by omega]; exact nI_rm (b := 3) (by omega) (by decide)]
        refine wq_b 43 40 d288_37 rfl (by decide) rfl (fun c37 => ?_) (fun c37 => ?_)
        · -- pc 43
          refine wq_l 44 d288_43 rfl rfl rfl rfl ?_
          refine wq_l 45 d288_44 rfl rfl rfl rfl ?_
          refine wq_l 46 d288_45 rfl rfl rfl rfl ?_
          refine wq_v 49 [_, _] d288_46 rfl rfl m289 rfl rfl (Nat.le_of_ble_eq_true rfl) rfl (re289 hG h hi hR ?_)
          refine wq_b 57 52 d288_49 rfl (by decide) rfl (fun c49 => ?_) (fun c49 => ?_)
          · -- pc 57
            have f49 := b2z c49
            refine wq_k 58 0 d288_57 (by decide) rfl ?_
            refine wq_ri d288_58 (rfl) ?_
            rw [if_neg (fun z => z.elim n1 (fun y => c37 (by have := y.2; rw [o4, ea] at this; rw [this]; rfl))), f49] at hQ
            exact hQ
          · -- pc 52
            have f49 := b2n c49
            refine wq_k 54 30 d288_52 (by decide) rfl ?_
            refine wq_g 58 d288_54 (by decide) ?_
            refine wq_ri d288_58 (rfl) ?_
            rw [if_neg (fun z => z.elim n1 (fun y => c37 (by have := y.2; rw [o4, ea] at this; rw [this]; rfl))), f49] at hQ
            exact hQ
        · -- pc 40
          refine wq_k 42 29 d288_40 (by decide) rfl ?_
          refine wq_ri d288_42 (rfl) ?_
          rw [if_pos (Or.inr ⟨fun z => c22 (by rw [z]; decide), by rw [o4, ea]; exact hp_inj (b := 0) (by omega) (by decide) (Classical.not_not.mp c37)⟩)] at hQ
          exact hQ
theorem re287 {d : Nat} {l : List pg_N} {a : Nat → Nat} {R : Int32 → Int32 → Prop} {σ0 σ : pm_S} {fl : Bool} {u : Nat} {A : rl_A} {Q : Option Value → pm_S → Prop} {NN i j : Nat} (hG : lg_G l NN) (h : rr_I l a R σ0 σ fl u A) (hp : pv_B A.1) (hB : A.1 ≠ []) (hs : rl_setl A) (hi : i + 1 < l.length) (hz : i + 1 < i + rl_z l i) (hj : j < l.length) (hcs : (rl_c l i).getLast? = some j) (hk1 : rp_nk (rl_k l (i + 1)) = true) (hfd : (rl_find (rl_cur A).2.2.2.2 (rl_v l (i + 1))).isSome = true) (hQ : rr_Q l a R σ0 fl u (if rl_asg l A i (rl_v l (i + 1)) ≠ 0 then rl_asg l A i (rl_v l (i + 1)) else if rl_fits (A.2.1 j) (A.2.1 (i + 1)) = true then 0 else 31, A) Q) : pm_call pm_Y0 (d + 4) 287 [.ref 10, .int (nI (a i))] σ Q := by
  have i0 : i < l.length := by omega
  have bi := rt_b (rr_T h) i0
  have ef := (rt_f (rr_T h) hG i0).trans (if_pos hz)
  have el := rt_l (rr_T h) i0 hcs
  have hR1 := rt_R (rr_T h) hi hk1
  have em1 := rt_m (rr_T h) hi
  have al := rl_asgl (l := l) (A := A) (i := i) (x := rl_v l (i + 1))
  have es := nI_toInt (n := rl_asg l A i (rl_v l (i + 1))) (by omega)
  refine wq_m m287 (Nat.le_of_ble_eq_true rfl) (by decide) rfl ?_
  refine wq_l 1 d287_0 rfl rfl rfl rfl ?_
  refine wq_l 2 d287_1 rfl rfl rfl rfl ?_
  refine wq_l 3 d287_2 rfl rfl rfl rfl ?_
  refine wq_gr (ci := 10) (j := 18) (q := 51) 6 d287_3 rfl rfl rfl rfl ?_
  refine wq_l 7 d287_6 rfl rfl rfl rfl ?_
  refine wq_gr (ci := 10) (j := 19) (q := 52) 10 d287_7 rfl rfl rfl rfl ?_
  refine wq_l 11 d287_10 rfl rfl rfl rfl ?_
  refine wq_al 12 d287_11 rfl rfl rfl (bi) ?_
  rw [ef]
  refine wq_al 13 d287_12 rfl rfl rfl (rt_b (rr_T h) hi) ?_
  rw [em1]
  refine wq_v 16 [_, _] d287_13 rfl rfl m288 rfl rfl (Nat.le_of_ble_eq_true rfl) rfl (re288 hG h hp hB hs hfd i0 hR1 ?_)
  refine wq_s 17 d287_16 rfl rfl (Nat.le_of_ble_eq_true rfl) rfl rfl ?_
  refine wq_l 18 d287_17 rfl rfl rfl rfl ?_
  refine wq_b 25 21 d287_18 rfl (by decide) rfl (fun c18 => ?_) (fun c18 => ?_)
  · -- pc 25
    have e0 : rl_asg l A i (rl_v l (i + 1)) = 0 := by rw [i_le, es] at c18; have c18 : _ ≤ (0 : Int) := c18; omega
    refine wq_l 26 d287_25 rfl rfl rfl rfl ?_
    refine wq_gr (ci := 10) (j := 23) (q := 56) 29 d287_26 rfl rfl rfl rfl ?_
    refine wq_l 30 d287_29 rfl rfl rfl rfl ?_
    refine wq_gr (ci := 10) (j := 20) (q := 53) 33 d287_30 rfl rfl rfl rfl ?_
    refine wq_l 34 d287_33 rfl rfl rfl rfl ?_
    refine wq_al 35 d287_34 rfl rfl rfl (bi) ?_
    rw [el]
    refine wq_al 36 d287_35 rfl rfl rfl (rt_b (rr_T h) hj) ?_
    rw [rt_t h hj]
    refine wq_l 37 d287_36 rfl rfl rfl rfl ?_
    refine wq_gr (ci := 10) (j := 23) (q := 56) 40 d287_37 rfl rfl rfl rfl ?_
    refine wq_l 41 d287_40 rfl rfl rfl rfl ?_
    refine wq_gr (ci := 10) (j := 19) (q := 52) 44 d287_41 rfl rfl rfl rfl ?_
    refine wq_l 45 d287_44 rfl rfl rfl rfl ?_
    refine wq_al 46 d287_45 rfl rfl rfl (bi) ?_
    rw [ef]
    refine wq_al 47 d287_46 rfl rfl rfl (rt_b (rr_T h) hi) ?_
    rw [rt_t h hi]
    refine wq_vs 50 [_, _] d287_47 rfl rfl m290 rfl (Nat.le_of_ble_eq_true rfl) rfl (sp290 ?_)
    refine wq_b 57 53 d287_50 rfl (by decide) rfl (fun c50 => ?_) (fun c50 => ?_)
    · -- pc 57
      have f50 := b2z c50
      refine wq_k 59 31 d287_57 (by decide) rfl ?_
      refine wq_ri d287_59 (rfl) ?_
      rw [if_neg (fun z => z e0), f50] at hQ
      exact rr_q1 (k := 31) hQ (rr_Fi h) rfl (by decide)
    · -- pc 53
      have f50 := b2n c50
      refine wq_k 54 0 d287_53 (by decide) rfl ?_
      refine wq_g 59 d287_54 (by decide) ?_
      refine wq_ri d287_59 (rfl) ?_
      rw [if_neg (fun z => z e0), f50] at hQ
      exact rr_q0 hQ h rfl
  · -- pc 21
    have e0 : rl_asg l A i (rl_v l (i + 1)) ≠ 0 := by rw [i_le, es] at c18; have c18 : ¬ _ ≤ (0 : Int) := c18; omega
    refine wq_l 22 d287_21 rfl rfl rfl rfl ?_
    refine wq_g 59 d287_22 (by decide) ?_
    refine wq_ri d287_59 (rfl) ?_
    exact rr_q1 hQ (rr_Fi h) (if_pos e0) e0
theorem re304 {d : Nat} {l : List pg_N} {a : Nat → Nat} {R : Int32 → Int32 → Prop} {σ0 σ : pm_S} {fl : Bool} {u : Nat} {A : rl_A} {Q : Option Value → pm_S → Prop} {NN i p : Nat} (hG : lg_G l NN) (h : rr_I l a R σ0 σ fl u A) (hp : pv_B A.1) (hB : A.1 ≠ []) (hs : rl_setl A) (hi : i + 1 < l.length) (hz : i + 1 < i + rl_z l i) (hpl : p < l.length) (hpc : i ∈ rl_c l p) (hk1 : rp_nk (rl_k l (i + 1)) = true) (hfd : (rl_find (rl_cur A).2.2.2.2 (rl_v l (i + 1))).isSome = true) (hQ : rr_Q l a R σ0 fl u (if i + rl_z l i ≠ p + rl_z l p then 39 else if A.2.1 (i + 1) ≠ 0 then 41 else rl_asg l A i (rl_v l (i + 1)), A) Q) : pm_call pm_Y0 (d + 4) 304 [.ref 10, .int (nI (a i))] σ Q := by
  have i0 : i < l.length := by omega
  have bi := rt_b (rr_T h) i0
  have ef := (rt_f (rr_T h) hG i0).trans (if_pos hz)
  have hR1 := rt_R (rr_T h) hi hk1
  have em1 := rt_m (rr_T h) hi
  have en := rt_n (rr_T h) hG hpl hpc
  have le : i + rl_z l i ≤ p + rl_z l p := rl_zl hG.1 hpl (by have := rl_cm hpc; omega) (rl_cm hpc).2
  by_cases q : i + rl_z l i < p + rl_z l p
  · rw [if_pos q] at en
    rw [if_pos (by omega)] at hQ
    have nl : i + rl_z l i < l.length := by have := (lg_cl hG hpl).1; omega
    refine wq_m m304 (Nat.le_of_ble_eq_true rfl) (by decide) rfl ?_
    refine wq_l 1 d304_0 rfl rfl rfl rfl ?_
    refine wq_gr (ci := 10) (j := 21) (q := 54) 4 d304_1 rfl rfl rfl rfl ?_
    refine wq_l 5 d304_4 rfl rfl rfl rfl ?_
    refine wq_al 6 d304_5 rfl rfl rfl (bi) ?_
    rw [en]
    refine wq_b 12 9 d304_6 rfl (by decide) rfl (fun c6 => absurd c6 (rt_nn (rr_T h) nl)) (fun c6 => ?_)
    refine wq_k 11 39 d304_9 (by decide) rfl ?_
    refine wq_ri d304_11 (rfl) ?_
    exact rr_q1 (k := 39) hQ (rr_Fi h) rfl (by decide)
  · rw [if_neg q] at en
    rw [if_neg (show ¬ i + rl_z l i ≠ p + rl_z l p by omega)] at hQ
    refine wq_m m304 (Nat.le_of_ble_eq_true rfl) (by decide) rfl ?_
    refine wq_l 1 d304_0 rfl rfl rfl rfl ?_
    refine wq_gr (ci := 10) (j := 21) (q := 54) 4 d304_1 rfl rfl rfl rfl ?_
    refine wq_l 5 d304_4 rfl rfl rfl rfl ?_
    refine wq_al 6 d304_5 rfl rfl rfl (bi) ?_
    rw [en]
    refine wq_b 12 9 d304_6 rfl (by decide) rfl (fun c6 => ?_) (fun c6 => absurd (by decide) c6)
    refine wq_l 13 d304_12 rfl rfl rfl rfl ?_
    refine wq_gr (ci := 10) (j := 23) (q := 56) 16 d304_13 rfl rfl rfl rfl ?_
    refine wq_l 17 d304_16 rfl rfl rfl rfl ?_
    refine wq_gr (ci := 10) (j := 19) (q := 52) 20 d304_17 rfl rfl rfl rfl ?_
    refine wq_l 21 d304_20 rfl rfl rfl rfl ?_
    refine wq_al 22 d304_21 rfl rfl rfl (bi) ?_
    rw [ef]
    refine wq_al 23 d304_22 rfl rfl rfl (rt_b (rr_T h) hi) ?_
    rw [rt_t h hi]
    refine wq_b 29 26 d304_23 rfl (by decide) rfl (fun c23 => ?_) (fun c23 => ?_)
    · -- pc 29
      refine wq_l 30 d304_29 rfl rfl rfl rfl ?_
      refine wq_l 31 d304_30 rfl rfl rfl rfl ?_
      refine wq_l 32 d304_31 rfl rfl rfl rfl ?_
      refine wq_gr (ci := 10) (j := 18) (q := 51) 35 d304_32 rfl rfl rfl rfl ?_
      refine wq_l 36 d304_35 rfl rfl rfl rfl ?_
      refine wq_gr (ci := 10) (j := 19) (q := 52) 39 d304_36 rfl rfl rfl rfl ?_
      refine wq_l 40 d304_39 rfl rfl rfl rfl ?_
      refine wq_al 41 d304_40 rfl rfl rfl (bi) ?_
      rw [ef]
      refine wq_al 42 d304_41 rfl rfl rfl (rt_b (rr_T h) hi) ?_
      rw [em1]
      refine wq_v 45 [_, _] d304_42 rfl rfl m288 rfl rfl (Nat.le_of_ble_eq_true rfl) rfl (re288 hG h hp hB hs hfd i0 hR1 ?_)
      refine wq_ri d304_45 (rfl) ?_
      rw [if_neg (fun z => z c23)] at hQ
      exact hQ σ (rr_Fi h) (fun _ => h)
    · -- pc 26
      refine wq_k 28 41 d304_26 (by decide) rfl ?_
      refine wq_ri d304_28 (rfl) ?_
      exact rr_q1 (k := 41) hQ (rr_Fi h) (if_pos c23) (by decide)
