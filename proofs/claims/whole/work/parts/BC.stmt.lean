theorem d182_0 : decode prog_8_method_4_code 0 = .ok (.aload_n 0, 1) := by decide +kernel
theorem d182_1 : decode prog_8_method_4_code 1 = .ok (.getfield 25, 3) := by decide +kernel
theorem d182_4 : decode prog_8_method_4_code 4 = .ok (.aload_n 0, 1) := by decide +kernel
theorem d182_5 : decode prog_8_method_4_code 5 = .ok (.iload_n 2, 1) := by decide +kernel
theorem d182_6 : decode prog_8_method_4_code 6 = .ok (.invokevirtual 87, 3) := by decide +kernel
theorem d182_9 : decode prog_8_method_4_code 9 = .ok (.invokevirtual 89, 3) := by decide +kernel
theorem d182_12 : decode prog_8_method_4_code 12 = .ok (.ifCond .eq 6, 3) := by decide +kernel
theorem d182_15 : decode prog_8_method_4_code 15 = .ok (.bipush 29, 2) := by decide +kernel
theorem d182_17 : decode prog_8_method_4_code 17 = .ok (.ireturn, 1) := by decide +kernel
theorem d182_18 : decode prog_8_method_4_code 18 = .ok (.aload_n 0, 1) := by decide +kernel
theorem d182_19 : decode prog_8_method_4_code 19 = .ok (.getfield 9, 3) := by decide +kernel
theorem d182_22 : decode prog_8_method_4_code 22 = .ok (.iload_n 1, 1) := by decide +kernel
theorem d182_23 : decode prog_8_method_4_code 23 = .ok (.iload_n 2, 1) := by decide +kernel
theorem d182_24 : decode prog_8_method_4_code 24 = .ok (.invokevirtual 61, 3) := by decide +kernel
theorem d182_27 : decode prog_8_method_4_code 27 = .ok (.ifCond .eq 8, 3) := by decide +kernel
theorem d182_30 : decode prog_8_method_4_code 30 = .ok (.bipush 30, 2) := by decide +kernel
theorem d182_32 : decode prog_8_method_4_code 32 = .ok (.goto 4, 3) := by decide +kernel
theorem d182_35 : decode prog_8_method_4_code 35 = .ok (.iconst 0, 1) := by decide +kernel
theorem d182_36 : decode prog_8_method_4_code 36 = .ok (.ireturn, 1) := by decide +kernel
theorem m182 : pm_m 182 = some (⟨"TypeRules$Statements", "assignedFault", "(II)I"⟩, prog_8_method_4_code, 3, (some FieldType.int), 9, 2, 10) := rfl
theorem d181_0 : decode prog_8_method_5_code 0 = .ok (.iload_n 1, 1) := by decide +kernel
theorem d181_1 : decode prog_8_method_5_code 1 = .ok (.iconst 1, 1) := by decide +kernel
theorem d181_2 : decode prog_8_method_5_code 2 = .ok (.iadd, 1) := by decide +kernel
theorem d181_3 : decode prog_8_method_5_code 3 = .ok (.istore_n 2, 1) := by decide +kernel
theorem d181_4 : decode prog_8_method_5_code 4 = .ok (.aload_n 0, 1) := by decide +kernel
theorem d181_5 : decode prog_8_method_5_code 5 = .ok (.iload_n 1, 1) := by decide +kernel
theorem d181_6 : decode prog_8_method_5_code 6 = .ok (.aload_n 0, 1) := by decide +kernel
theorem d181_7 : decode prog_8_method_5_code 7 = .ok (.getfield 9, 3) := by decide +kernel
theorem d181_10 : decode prog_8_method_5_code 10 = .ok (.iload_n 2, 1) := by decide +kernel
theorem d181_11 : decode prog_8_method_5_code 11 = .ok (.invokevirtual 92, 3) := by decide +kernel
theorem d181_14 : decode prog_8_method_5_code 14 = .ok (.invokevirtual 95, 3) := by decide +kernel
theorem d181_17 : decode prog_8_method_5_code 17 = .ok (.istore_n 3, 1) := by decide +kernel
theorem d181_18 : decode prog_8_method_5_code 18 = .ok (.iload_n 3, 1) := by decide +kernel
theorem d181_19 : decode prog_8_method_5_code 19 = .ok (.ifCond .eq 5, 3) := by decide +kernel
theorem d181_22 : decode prog_8_method_5_code 22 = .ok (.iload_n 3, 1) := by decide +kernel
theorem d181_23 : decode prog_8_method_5_code 23 = .ok (.ireturn, 1) := by decide +kernel
theorem d181_24 : decode prog_8_method_5_code 24 = .ok (.aload_n 0, 1) := by decide +kernel
theorem d181_25 : decode prog_8_method_5_code 25 = .ok (.getfield 9, 3) := by decide +kernel
theorem d181_28 : decode prog_8_method_5_code 28 = .ok (.aload_n 0, 1) := by decide +kernel
theorem d181_29 : decode prog_8_method_5_code 29 = .ok (.getfield 9, 3) := by decide +kernel
theorem d181_32 : decode prog_8_method_5_code 32 = .ok (.iload_n 2, 1) := by decide +kernel
theorem d181_33 : decode prog_8_method_5_code 33 = .ok (.invokevirtual 98, 3) := by decide +kernel
theorem d181_36 : decode prog_8_method_5_code 36 = .ok (.invokevirtual 46, 3) := by decide +kernel
theorem d181_39 : decode prog_8_method_5_code 39 = .ok (.istore 4, 2) := by decide +kernel
theorem d181_41 : decode prog_8_method_5_code 41 = .ok (.iload 4, 2) := by decide +kernel
theorem d181_43 : decode prog_8_method_5_code 43 = .ok (.aload_n 0, 1) := by decide +kernel
theorem d181_44 : decode prog_8_method_5_code 44 = .ok (.getfield 9, 3) := by decide +kernel
theorem d181_47 : decode prog_8_method_5_code 47 = .ok (.iload_n 2, 1) := by decide +kernel
theorem d181_48 : decode prog_8_method_5_code 48 = .ok (.invokevirtual 46, 3) := by decide +kernel
theorem d181_51 : decode prog_8_method_5_code 51 = .ok (.invokestatic 101, 3) := by decide +kernel
theorem d181_54 : decode prog_8_method_5_code 54 = .ok (.ifCond .eq 7, 3) := by decide +kernel
theorem d181_57 : decode prog_8_method_5_code 57 = .ok (.iconst 0, 1) := by decide +kernel
theorem d181_58 : decode prog_8_method_5_code 58 = .ok (.goto 5, 3) := by decide +kernel
theorem d181_61 : decode prog_8_method_5_code 61 = .ok (.bipush 31, 2) := by decide +kernel
theorem d181_63 : decode prog_8_method_5_code 63 = .ok (.ireturn, 1) := by decide +kernel
theorem m181 : pm_m 181 = some (⟨"TypeRules$Statements", "assignmentFault", "(I)I"⟩, prog_8_method_5_code, 5, (some FieldType.int), 9, 1, 10) := rfl
theorem d184_0 : decode prog_8_method_6_code 0 = .ok (.aload_n 0, 1) := by decide +kernel
theorem d184_1 : decode prog_8_method_6_code 1 = .ok (.aload_n 0, 1) := by decide +kernel
theorem d184_2 : decode prog_8_method_6_code 2 = .ok (.getfield 9, 3) := by decide +kernel
theorem d184_5 : decode prog_8_method_6_code 5 = .ok (.iload_n 1, 1) := by decide +kernel
theorem d184_6 : decode prog_8_method_6_code 6 = .ok (.invokevirtual 92, 3) := by decide +kernel
theorem d184_9 : decode prog_8_method_6_code 9 = .ok (.invokevirtual 87, 3) := by decide +kernel
theorem d184_12 : decode prog_8_method_6_code 12 = .ok (.istore_n 2, 1) := by decide +kernel
theorem d184_13 : decode prog_8_method_6_code 13 = .ok (.iload_n 2, 1) := by decide +kernel
theorem d184_14 : decode prog_8_method_6_code 14 = .ok (.iconst (-1), 1) := by decide +kernel
theorem d184_15 : decode prog_8_method_6_code 15 = .ok (.if_icmp .ne 6, 3) := by decide +kernel
theorem d184_18 : decode prog_8_method_6_code 18 = .ok (.bipush 20, 2) := by decide +kernel
theorem d184_20 : decode prog_8_method_6_code 20 = .ok (.ireturn, 1) := by decide +kernel
theorem d184_21 : decode prog_8_method_6_code 21 = .ok (.aload_n 0, 1) := by decide +kernel
theorem d184_22 : decode prog_8_method_6_code 22 = .ok (.getfield 25, 3) := by decide +kernel
theorem d184_25 : decode prog_8_method_6_code 25 = .ok (.iload_n 2, 1) := by decide +kernel
theorem d184_26 : decode prog_8_method_6_code 26 = .ok (.invokevirtual 104, 3) := by decide +kernel
theorem d184_29 : decode prog_8_method_6_code 29 = .ok (.bipush 10, 2) := by decide +kernel
theorem d184_31 : decode prog_8_method_6_code 31 = .ok (.if_icmp .eq 6, 3) := by decide +kernel
theorem d184_34 : decode prog_8_method_6_code 34 = .ok (.bipush 21, 2) := by decide +kernel
theorem d184_36 : decode prog_8_method_6_code 36 = .ok (.ireturn, 1) := by decide +kernel
theorem d184_37 : decode prog_8_method_6_code 37 = .ok (.aload_n 0, 1) := by decide +kernel
theorem d184_38 : decode prog_8_method_6_code 38 = .ok (.getfield 25, 3) := by decide +kernel
theorem d184_41 : decode prog_8_method_6_code 41 = .ok (.iload_n 2, 1) := by decide +kernel
theorem d184_42 : decode prog_8_method_6_code 42 = .ok (.invokevirtual 109, 3) := by decide +kernel
theorem d184_45 : decode prog_8_method_6_code 45 = .ok (.istore_n 3, 1) := by decide +kernel
theorem d184_46 : decode prog_8_method_6_code 46 = .ok (.iload_n 3, 1) := by decide +kernel
theorem d184_47 : decode prog_8_method_6_code 47 = .ok (.bipush 9, 2) := by decide +kernel
theorem d184_49 : decode prog_8_method_6_code 49 = .ok (.if_icmp .lt 7, 3) := by decide +kernel
theorem d184_52 : decode prog_8_method_6_code 52 = .ok (.iconst 1, 1) := by decide +kernel
theorem d184_53 : decode prog_8_method_6_code 53 = .ok (.goto 4, 3) := by decide +kernel
theorem d184_56 : decode prog_8_method_6_code 56 = .ok (.iconst 0, 1) := by decide +kernel
theorem d184_57 : decode prog_8_method_6_code 57 = .ok (.istore 4, 2) := by decide +kernel
theorem d184_59 : decode prog_8_method_6_code 59 = .ok (.aload_n 0, 1) := by decide +kernel
theorem d184_60 : decode prog_8_method_6_code 60 = .ok (.getfield 9, 3) := by decide +kernel
theorem d184_63 : decode prog_8_method_6_code 63 = .ok (.iload_n 1, 1) := by decide +kernel
theorem d184_64 : decode prog_8_method_6_code 64 = .ok (.aload_n 0, 1) := by decide +kernel
theorem d184_65 : decode prog_8_method_6_code 65 = .ok (.getfield 25, 3) := by decide +kernel
theorem d184_68 : decode prog_8_method_6_code 68 = .ok (.iload_n 2, 1) := by decide +kernel
theorem d184_69 : decode prog_8_method_6_code 69 = .ok (.invokevirtual 112, 3) := by decide +kernel
theorem d184_72 : decode prog_8_method_6_code 72 = .ok (.invokevirtual 115, 3) := by decide +kernel
theorem d184_75 : decode prog_8_method_6_code 75 = .ok (.aload_n 0, 1) := by decide +kernel
theorem d184_76 : decode prog_8_method_6_code 76 = .ok (.getfield 9, 3) := by decide +kernel
theorem d184_79 : decode prog_8_method_6_code 79 = .ok (.iload_n 1, 1) := by decide +kernel
theorem d184_80 : decode prog_8_method_6_code 80 = .ok (.iload 4, 2) := by decide +kernel
theorem d184_82 : decode prog_8_method_6_code 82 = .ok (.ifCond .eq 10, 3) := by decide +kernel
theorem d184_85 : decode prog_8_method_6_code 85 = .ok (.iload_n 3, 1) := by decide +kernel
theorem d184_86 : decode prog_8_method_6_code 86 = .ok (.bipush 9, 2) := by decide +kernel
theorem d184_88 : decode prog_8_method_6_code 88 = .ok (.isub, 1) := by decide +kernel
theorem d184_89 : decode prog_8_method_6_code 89 = .ok (.goto 7, 3) := by decide +kernel
theorem d184_92 : decode prog_8_method_6_code 92 = .ok (.bipush 100, 2) := by decide +kernel
theorem d184_94 : decode prog_8_method_6_code 94 = .ok (.iload_n 3, 1) := by decide +kernel
theorem d184_95 : decode prog_8_method_6_code 95 = .ok (.iadd, 1) := by decide +kernel
theorem d184_96 : decode prog_8_method_6_code 96 = .ok (.invokevirtual 119, 3) := by decide +kernel
theorem d184_99 : decode prog_8_method_6_code 99 = .ok (.iconst 0, 1) := by decide +kernel
theorem d184_100 : decode prog_8_method_6_code 100 = .ok (.ireturn, 1) := by decide +kernel
theorem m184 : pm_m 184 = some (⟨"TypeRules$Statements", "invocationFault", "(I)I"⟩, prog_8_method_6_code, 5, (some FieldType.int), 9, 1, 10) := rfl
theorem d187_0 : decode prog_8_method_9_code 0 = .ok (.iload_n 1, 1) := by decide +kernel
theorem d187_1 : decode prog_8_method_9_code 1 = .ok (.iconst 1, 1) := by decide +kernel
theorem d187_2 : decode prog_8_method_9_code 2 = .ok (.iadd, 1) := by decide +kernel
theorem d187_3 : decode prog_8_method_9_code 3 = .ok (.istore_n 2, 1) := by decide +kernel
theorem d187_4 : decode prog_8_method_9_code 4 = .ok (.aload_n 0, 1) := by decide +kernel
theorem d187_5 : decode prog_8_method_9_code 5 = .ok (.getfield 9, 3) := by decide +kernel
theorem d187_8 : decode prog_8_method_9_code 8 = .ok (.iload_n 1, 1) := by decide +kernel
theorem d187_9 : decode prog_8_method_9_code 9 = .ok (.invokevirtual 98, 3) := by decide +kernel
theorem d187_12 : decode prog_8_method_9_code 12 = .ok (.iconst 1, 1) := by decide +kernel
theorem d187_13 : decode prog_8_method_9_code 13 = .ok (.isub, 1) := by decide +kernel
theorem d187_14 : decode prog_8_method_9_code 14 = .ok (.istore_n 3, 1) := by decide +kernel
theorem d187_15 : decode prog_8_method_9_code 15 = .ok (.aload_n 0, 1) := by decide +kernel
theorem d187_16 : decode prog_8_method_9_code 16 = .ok (.getfield 9, 3) := by decide +kernel
theorem d187_19 : decode prog_8_method_9_code 19 = .ok (.iload_n 2, 1) := by decide +kernel
theorem d187_20 : decode prog_8_method_9_code 20 = .ok (.invokevirtual 28, 3) := by decide +kernel
theorem d187_23 : decode prog_8_method_9_code 23 = .ok (.bipush 31, 2) := by decide +kernel
theorem d187_25 : decode prog_8_method_9_code 25 = .ok (.if_icmp .eq 16, 3) := by decide +kernel
theorem d187_28 : decode prog_8_method_9_code 28 = .ok (.aload_n 0, 1) := by decide +kernel
theorem d187_29 : decode prog_8_method_9_code 29 = .ok (.getfield 9, 3) := by decide +kernel
theorem d187_32 : decode prog_8_method_9_code 32 = .ok (.iload_n 3, 1) := by decide +kernel
theorem d187_33 : decode prog_8_method_9_code 33 = .ok (.invokevirtual 28, 3) := by decide +kernel
theorem d187_36 : decode prog_8_method_9_code 36 = .ok (.bipush 31, 2) := by decide +kernel
theorem d187_38 : decode prog_8_method_9_code 38 = .ok (.if_icmp .ne 6, 3) := by decide +kernel
theorem d187_41 : decode prog_8_method_9_code 41 = .ok (.bipush 35, 2) := by decide +kernel
theorem d187_43 : decode prog_8_method_9_code 43 = .ok (.ireturn, 1) := by decide +kernel
theorem d187_44 : decode prog_8_method_9_code 44 = .ok (.aload_n 0, 1) := by decide +kernel
theorem d187_45 : decode prog_8_method_9_code 45 = .ok (.getfield 9, 3) := by decide +kernel
theorem d187_48 : decode prog_8_method_9_code 48 = .ok (.iload_n 2, 1) := by decide +kernel
theorem d187_49 : decode prog_8_method_9_code 49 = .ok (.invokevirtual 92, 3) := by decide +kernel
theorem d187_52 : decode prog_8_method_9_code 52 = .ok (.aload_n 0, 1) := by decide +kernel
theorem d187_53 : decode prog_8_method_9_code 53 = .ok (.getfield 9, 3) := by decide +kernel
theorem d187_56 : decode prog_8_method_9_code 56 = .ok (.iload_n 3, 1) := by decide +kernel
theorem d187_57 : decode prog_8_method_9_code 57 = .ok (.invokevirtual 92, 3) := by decide +kernel
theorem d187_60 : decode prog_8_method_9_code 60 = .ok (.if_icmp .le 8, 3) := by decide +kernel
theorem d187_63 : decode prog_8_method_9_code 63 = .ok (.bipush 35, 2) := by decide +kernel
theorem d187_65 : decode prog_8_method_9_code 65 = .ok (.goto 4, 3) := by decide +kernel
theorem d187_68 : decode prog_8_method_9_code 68 = .ok (.iconst 0, 1) := by decide +kernel
theorem d187_69 : decode prog_8_method_9_code 69 = .ok (.ireturn, 1) := by decide +kernel
theorem m187 : pm_m 187 = some (⟨"TypeRules$Statements", "rangeFault", "(I)I"⟩, prog_8_method_9_code, 4, (some FieldType.int), 9, 1, 10) := rfl
theorem d193_0 : decode prog_8_method_15_code 0 = .ok (.aload_n 0, 1) := by decide +kernel
theorem d193_1 : decode prog_8_method_15_code 1 = .ok (.getfield 9, 3) := by decide +kernel
theorem d193_4 : decode prog_8_method_15_code 4 = .ok (.iload_n 1, 1) := by decide +kernel
theorem d193_5 : decode prog_8_method_15_code 5 = .ok (.invokevirtual 98, 3) := by decide +kernel
theorem d193_8 : decode prog_8_method_15_code 8 = .ok (.aload_n 0, 1) := by decide +kernel
theorem d193_9 : decode prog_8_method_15_code 9 = .ok (.getfield 9, 3) := by decide +kernel
theorem d193_12 : decode prog_8_method_15_code 12 = .ok (.aload_n 0, 1) := by decide +kernel
theorem d193_13 : decode prog_8_method_15_code 13 = .ok (.getfield 9, 3) := by decide +kernel
theorem d193_16 : decode prog_8_method_15_code 16 = .ok (.iload_n 1, 1) := by decide +kernel
theorem d193_17 : decode prog_8_method_15_code 17 = .ok (.invokevirtual 122, 3) := by decide +kernel
theorem d193_20 : decode prog_8_method_15_code 20 = .ok (.invokevirtual 98, 3) := by decide +kernel
theorem d193_23 : decode prog_8_method_15_code 23 = .ok (.if_icmp .eq 6, 3) := by decide +kernel
theorem d193_26 : decode prog_8_method_15_code 26 = .ok (.bipush 39, 2) := by decide +kernel
theorem d193_28 : decode prog_8_method_15_code 28 = .ok (.ireturn, 1) := by decide +kernel
theorem d193_29 : decode prog_8_method_15_code 29 = .ok (.aload_n 0, 1) := by decide +kernel
theorem d193_30 : decode prog_8_method_15_code 30 = .ok (.getfield 9, 3) := by decide +kernel
theorem d193_33 : decode prog_8_method_15_code 33 = .ok (.iload_n 1, 1) := by decide +kernel
theorem d193_34 : decode prog_8_method_15_code 34 = .ok (.iconst 1, 1) := by decide +kernel
theorem d193_35 : decode prog_8_method_15_code 35 = .ok (.iadd, 1) := by decide +kernel
theorem d193_36 : decode prog_8_method_15_code 36 = .ok (.invokevirtual 46, 3) := by decide +kernel
theorem d193_39 : decode prog_8_method_15_code 39 = .ok (.ifCond .eq 6, 3) := by decide +kernel
theorem d193_42 : decode prog_8_method_15_code 42 = .ok (.bipush 41, 2) := by decide +kernel
theorem d193_44 : decode prog_8_method_15_code 44 = .ok (.ireturn, 1) := by decide +kernel
theorem d193_45 : decode prog_8_method_15_code 45 = .ok (.aload_n 0, 1) := by decide +kernel
theorem d193_46 : decode prog_8_method_15_code 46 = .ok (.iload_n 1, 1) := by decide +kernel
theorem d193_47 : decode prog_8_method_15_code 47 = .ok (.aload_n 0, 1) := by decide +kernel
theorem d193_48 : decode prog_8_method_15_code 48 = .ok (.getfield 9, 3) := by decide +kernel
theorem d193_51 : decode prog_8_method_15_code 51 = .ok (.iload_n 1, 1) := by decide +kernel
theorem d193_52 : decode prog_8_method_15_code 52 = .ok (.iconst 1, 1) := by decide +kernel
theorem d193_53 : decode prog_8_method_15_code 53 = .ok (.iadd, 1) := by decide +kernel
theorem d193_54 : decode prog_8_method_15_code 54 = .ok (.invokevirtual 92, 3) := by decide +kernel
theorem d193_57 : decode prog_8_method_15_code 57 = .ok (.invokevirtual 95, 3) := by decide +kernel
theorem d193_60 : decode prog_8_method_15_code 60 = .ok (.ireturn, 1) := by decide +kernel
theorem m193 : pm_m 193 = some (⟨"TypeRules$Statements", "coilFault", "(I)I"⟩, prog_8_method_15_code, 2, (some FieldType.int), 9, 1, 10) := rfl
theorem d194_0 : decode prog_8_method_16_code 0 = .ok (.aload_n 0, 1) := by decide +kernel
theorem d194_1 : decode prog_8_method_16_code 1 = .ok (.getfield 9, 3) := by decide +kernel
theorem d194_4 : decode prog_8_method_16_code 4 = .ok (.iload_n 1, 1) := by decide +kernel
theorem d194_5 : decode prog_8_method_16_code 5 = .ok (.invokevirtual 122, 3) := by decide +kernel
theorem d194_8 : decode prog_8_method_16_code 8 = .ok (.istore_n 2, 1) := by decide +kernel
theorem d194_9 : decode prog_8_method_16_code 9 = .ok (.aload_n 0, 1) := by decide +kernel
theorem d194_10 : decode prog_8_method_16_code 10 = .ok (.getfield 9, 3) := by decide +kernel
theorem d194_13 : decode prog_8_method_16_code 13 = .ok (.iload_n 2, 1) := by decide +kernel
theorem d194_14 : decode prog_8_method_16_code 14 = .ok (.invokevirtual 98, 3) := by decide +kernel
theorem d194_17 : decode prog_8_method_16_code 17 = .ok (.aload_n 0, 1) := by decide +kernel
theorem d194_18 : decode prog_8_method_16_code 18 = .ok (.getfield 9, 3) := by decide +kernel
theorem d194_21 : decode prog_8_method_16_code 21 = .ok (.aload_n 0, 1) := by decide +kernel
theorem d194_22 : decode prog_8_method_16_code 22 = .ok (.getfield 9, 3) := by decide +kernel
theorem d194_25 : decode prog_8_method_16_code 25 = .ok (.iload_n 2, 1) := by decide +kernel
theorem d194_26 : decode prog_8_method_16_code 26 = .ok (.invokevirtual 122, 3) := by decide +kernel
theorem d194_29 : decode prog_8_method_16_code 29 = .ok (.invokevirtual 98, 3) := by decide +kernel
theorem d194_32 : decode prog_8_method_16_code 32 = .ok (.if_icmp .ne 8, 3) := by decide +kernel
theorem d194_35 : decode prog_8_method_16_code 35 = .ok (.bipush 40, 2) := by decide +kernel
theorem d194_37 : decode prog_8_method_16_code 37 = .ok (.goto 4, 3) := by decide +kernel
theorem d194_40 : decode prog_8_method_16_code 40 = .ok (.iconst 0, 1) := by decide +kernel
theorem d194_41 : decode prog_8_method_16_code 41 = .ok (.ireturn, 1) := by decide +kernel
theorem m194 : pm_m 194 = some (⟨"TypeRules$Statements", "linkFault", "(I)I"⟩, prog_8_method_16_code, 3, (some FieldType.int), 9, 1, 10) := rfl
theorem d186_0 : decode prog_8_method_8_code 0 = .ok (.aload_n 0, 1) := by decide +kernel
theorem d186_1 : decode prog_8_method_8_code 1 = .ok (.getfield 9, 3) := by decide +kernel
theorem d186_4 : decode prog_8_method_8_code 4 = .ok (.iload_n 1, 1) := by decide +kernel
theorem d186_5 : decode prog_8_method_8_code 5 = .ok (.invokevirtual 98, 3) := by decide +kernel
theorem d186_8 : decode prog_8_method_8_code 8 = .ok (.istore_n 2, 1) := by decide +kernel
theorem d186_9 : decode prog_8_method_8_code 9 = .ok (.iload_n 1, 1) := by decide +kernel
theorem d186_10 : decode prog_8_method_8_code 10 = .ok (.iconst 1, 1) := by decide +kernel
theorem d186_11 : decode prog_8_method_8_code 11 = .ok (.iadd, 1) := by decide +kernel
theorem d186_12 : decode prog_8_method_8_code 12 = .ok (.istore_n 3, 1) := by decide +kernel
theorem d186_13 : decode prog_8_method_8_code 13 = .ok (.iload_n 3, 1) := by decide +kernel
theorem d186_14 : decode prog_8_method_8_code 14 = .ok (.iload_n 2, 1) := by decide +kernel
theorem d186_15 : decode prog_8_method_8_code 15 = .ok (.if_icmp .ge 42, 3) := by decide +kernel
theorem d186_18 : decode prog_8_method_8_code 18 = .ok (.aload_n 0, 1) := by decide +kernel
theorem d186_19 : decode prog_8_method_8_code 19 = .ok (.getfield 9, 3) := by decide +kernel
theorem d186_22 : decode prog_8_method_8_code 22 = .ok (.iload_n 3, 1) := by decide +kernel
theorem d186_23 : decode prog_8_method_8_code 23 = .ok (.invokevirtual 28, 3) := by decide +kernel
theorem d186_26 : decode prog_8_method_8_code 26 = .ok (.bipush 11, 2) := by decide +kernel
theorem d186_28 : decode prog_8_method_8_code 28 = .ok (.if_icmp .eq 17, 3) := by decide +kernel
theorem d186_31 : decode prog_8_method_8_code 31 = .ok (.aload_n 0, 1) := by decide +kernel
theorem d186_32 : decode prog_8_method_8_code 32 = .ok (.getfield 9, 3) := by decide +kernel
theorem d186_35 : decode prog_8_method_8_code 35 = .ok (.iload_n 3, 1) := by decide +kernel
theorem d186_36 : decode prog_8_method_8_code 36 = .ok (.invokevirtual 46, 3) := by decide +kernel
theorem d186_39 : decode prog_8_method_8_code 39 = .ok (.ifCond .eq 6, 3) := by decide +kernel
theorem d186_42 : decode prog_8_method_8_code 42 = .ok (.bipush 34, 2) := by decide +kernel
theorem d186_44 : decode prog_8_method_8_code 44 = .ok (.ireturn, 1) := by decide +kernel
theorem d186_45 : decode prog_8_method_8_code 45 = .ok (.aload_n 0, 1) := by decide +kernel
theorem d186_46 : decode prog_8_method_8_code 46 = .ok (.getfield 9, 3) := by decide +kernel
theorem d186_49 : decode prog_8_method_8_code 49 = .ok (.iload_n 3, 1) := by decide +kernel
theorem d186_50 : decode prog_8_method_8_code 50 = .ok (.invokevirtual 98, 3) := by decide +kernel
theorem d186_53 : decode prog_8_method_8_code 53 = .ok (.istore_n 3, 1) := by decide +kernel
theorem d186_54 : decode prog_8_method_8_code 54 = .ok (.goto (-41), 3) := by decide +kernel
theorem d186_57 : decode prog_8_method_8_code 57 = .ok (.iconst 0, 1) := by decide +kernel
theorem d186_58 : decode prog_8_method_8_code 58 = .ok (.ireturn, 1) := by decide +kernel
theorem m186 : pm_m 186 = some (⟨"TypeRules$Statements", "ifFault", "(I)I"⟩, prog_8_method_8_code, 4, (some FieldType.int), 9, 1, 10) := rfl
/-! STATEMENTS of the class -/
theorem nI_s9 {q : Nat} (h : 9 ≤ q) : nI q - 9 = nI (q - 9) := by
  conv => lhs; rw [show q = (q - 9) + 9 by omega]
  exact nI_sb (q - 9) 9
theorem rl_lpx {l : List pg_N} {i : Nat} {x : Int32} (hx : 0 ≤ x.toInt) : (rl_up l i).any (rl_lp l x) = rl_loop l i x := by
  unfold rl_loop
  congr 1
  funext j
  unfold rl_lp
  rw [decide_eq_false (show ¬ x = -1 from fun z => by rw [z] at hx; exact absurd hx (by decide)), Bool.false_or]
theorem rl_asg_s {l : List pg_N} {A : rl_A} {i : Nat} {x : Int32} {v : rl_V} (h : rl_find (rl_cur A).2.2.2.2 x = some v) (h3 : v.2.1 ≠ 3) : rl_asg l A i x = if rl_ro v = true then 29 else if rl_loop l i x = true then 30 else 0 := by
  unfold rl_asg
  rw [rl_vrs h]
  have e : (rl_ro v = true) = (v.2.2.2.1 = 1 ∨ (v.2.2.2.2.1 ≠ -1 ∧ rl_area v.2.2.2.2.1 % 3 = 0)) := by
    unfold rl_ro
    rw [decide_eq_true_eq]
    apply propext
    constructor
    · rintro (q | q)
      · exact Or.inl q
      · exact Or.inr q.2
    · rintro (q | q)
      · exact Or.inl q
      · exact Or.inr ⟨h3, q⟩
  simp only [e]
theorem rl_asg_n {l : List pg_N} {A : rl_A} {i : Nat} {x : Int32} (h : rl_find (rl_cur A).2.2.2.2 x = none) : rl_asg l A i x = if rl_loop l i x = true then 30 else 0 := by
  unfold rl_asg
  have e : rl_var A x = (0, 0, 0, 0, -1, 0) := by unfold rl_var; rw [h]; rfl
  rw [e, if_neg]
  rintro (q | q)
  · exact absurd q (by decide)
  · exact q.1 rfl
theorem rl_asgl {l : List pg_N} {A : rl_A} {i : Nat} {x : Int32} : rl_asg l A i x ≤ 30 := by
  unfold rl_asg
  by_cases q : (rl_var A x).2.2.2.1 = 1 ∨ ((rl_var A x).2.2.2.2.1 ≠ -1 ∧ rl_area (rl_var A x).2.2.2.2.1 % 3 = 0)
  · rw [if_pos q]; decide
  · rw [if_neg q]
    by_cases w : rl_loop l i x = true
    · rw [if_pos w]; decide
    · rw [if_neg w]; decide
theorem cr182 {d : Nat} {l : List pg_N} {NN nx : Nat} {σ0 σ : pm_S} {A : rl_A} {Q : Option Value → pm_S → Prop} {i : Nat} {x : Int32} (hG : lg_G l NN) (h : cr_I l NN σ0 σ nx A) (hB : A.1 ≠ []) (hs : rl_setl A) (hi : i < l.length) (hn : i < nx) (hx : 0 ≤ x.toInt ∧ x.toInt < NN) (hQ : Q (some (.int (nI (rl_asg l A i x)))) σ) : pm_call pm_Y0 (d + 3) 182 [.ref 9, .int (nI i), .int x] σ Q := by
  refine wq_m m182 (Nat.le_of_ble_eq_true rfl) (by decide) rfl ?_
  refine wq_l 1 d182_0 rfl rfl rfl rfl ?_
  refine wq_gr (ci := 9) (j := 2) (q := 6) 4 d182_1 rfl rfl rfl rfl ?_
  refine wq_l 5 d182_4 rfl rfl rfl rfl ?_
  refine wq_l 6 d182_5 rfl rfl rfl rfl ?_
  refine wq_v 9 [_] d182_6 rfl rfl m183 rfl rfl (Nat.le_of_ble_eq_true rfl) rfl (cr183 h hB hx (fun e6 => ?_) (fun i6 o6 v6 e6 f6 => ?_))
  · -- fork 6
    rw [rl_asg_n e6] at hQ
    refine wq_v 12 [_] d182_9 rfl rfl m139 rfl rfl (Nat.le_of_ble_eq_true rfl) rfl (cf139n h.2.2.2.2.2.1 ?_)
    refine wq_b 18 15 d182_12 rfl (by decide) rfl (fun c12 => ?_) (fun c12 => absurd (rfl) c12)
    refine wq_l 19 d182_18 rfl rfl rfl rfl ?_
    refine wq_gr (ci := 9) (j := 0) (q := 3) 22 d182_19 rfl rfl rfl rfl ?_
    refine wq_l 23 d182_22 rfl rfl rfl rfl ?_
    refine wq_l 24 d182_23 rfl rfl rfl rfl ?_
    refine wq_v 27 [_, _] d182_24 rfl rfl m73 rfl rfl (Nat.le_of_ble_eq_true rfl) rfl (ck73 hG h hi hn ?_)
    rw [rl_lpx hx.1]
    refine wq_b 35 30 d182_27 rfl (by decide) rfl (fun c27 => ?_) (fun c27 => ?_)
    · -- pc 35
      have f27 := b2z c27
      refine wq_k 36 0 d182_35 (by decide) rfl ?_
      refine wq_ri d182_36 (rfl) ?_
      rw [if_neg (fun z => absurd (f27.symm.trans z) (by decide))] at hQ
      exact hQ
    · -- pc 30
      have f27 := b2n c27
      refine wq_k 32 30 d182_30 (by decide) rfl ?_
      refine wq_g 36 d182_32 (by decide) ?_
      refine wq_ri d182_36 (rfl) ?_
      rw [if_pos f27] at hQ
      exact hQ
  · -- fork 6
    rw [rl_asg_s e6 (hs _ (rl_find_m e6))] at hQ
    refine wq_v 12 [_] d182_9 rfl rfl m139 rfl rfl (Nat.le_of_ble_eq_true rfl) rfl (cf139 h.2.2.2.2.2.1 f6 ?_)
    refine wq_b 18 15 d182_12 rfl (by decide) rfl (fun c12 => ?_) (fun c12 => ?_)
    · -- pc 18
      have f12 := b2z c12
      refine wq_l 19 d182_18 rfl rfl rfl rfl ?_
      refine wq_gr (ci := 9) (j := 0) (q := 3) 22 d182_19 rfl rfl rfl rfl ?_
      refine wq_l 23 d182_22 rfl rfl rfl rfl ?_
      refine wq_l 24 d182_23 rfl rfl rfl rfl ?_
      refine wq_v 27 [_, _] d182_24 rfl rfl m73 rfl rfl (Nat.le_of_ble_eq_true rfl) rfl (ck73 hG h hi hn ?_)
      rw [rl_lpx hx.1]
      refine wq_b 35 30 d182_27 rfl (by decide) rfl (fun c27 => ?_) (fun c27 => ?_)
      · -- pc 35
        have f27 := b2z c27
        refine wq_k 36 0 d182_35 (by decide) rfl ?_
        refine wq_ri d182_36 (rfl) ?_
        rw [if_neg (fun z => absurd (f12.symm.trans z) (by decide))] at hQ
        rw [if_neg (fun z => absurd (f27.symm.trans z) (by decide))] at hQ
        exact hQ
      · -- pc 30
        have f27 := b2n c27
        refine wq_k 32 30 d182_30 (by decide) rfl ?_
        refine wq_g 36 d182_32 (by decide) ?_
        refine wq_ri d182_36 (rfl) ?_
        rw [if_neg (fun z => absurd (f12.symm.trans z) (by decide))] at hQ
        rw [if_pos f27] at hQ
        exact hQ
    · -- pc 15
      have f12 := b2n c12
      refine wq_k 17 29 d182_15 (by decide) rfl ?_
      refine wq_ri d182_17 (rfl) ?_
      rw [if_pos f12] at hQ
      exact hQ
theorem cr181 {d : Nat} {l : List pg_N} {NN nx : Nat} {σ0 σ : pm_S} {A : rl_A} {Q : Option Value → pm_S → Prop} {i : Nat} (hG : lg_G l NN) (h : cr_I l NN σ0 σ nx A) (hB : A.1 ≠ []) (hs : rl_setl A) (hi : i + 1 < l.length) (hi2 : i + 1 + rl_z l (i + 1) < l.length) (hn : i < nx) (hx : 0 ≤ (rl_v l (i + 1)).toInt ∧ (rl_v l (i + 1)).toInt < NN) (hQ : ∀ σ' A', cr_I l NN σ0 σ' nx A' → ((((if rl_asg l A i (rl_v l (i + 1)) ≠ 0 then rl_asg l A i (rl_v l (i + 1)) else if rl_fits (A.2.1 (i + 1 + rl_z l (i + 1))) (A.2.1 (i + 1)) = true then 0 else 31, A) : Nat × rl_A)).1 = 0 → A' = (((if rl_asg l A i (rl_v l (i + 1)) ≠ 0 then rl_asg l A i (rl_v l (i + 1)) else if rl_fits (A.2.1 (i + 1 + rl_z l (i + 1))) (A.2.1 (i + 1)) = true then 0 else 31, A) : Nat × rl_A)).2) → Q (some (.int (nI (((if rl_asg l A i (rl_v l (i + 1)) ≠ 0 then rl_asg l A i (rl_v l (i + 1)) else if rl_fits (A.2.1 (i + 1 + rl_z l (i + 1))) (A.2.1 (i + 1)) = true then 0 else 31, A) : Nat × rl_A)).1))) σ') : pm_call pm_Y0 (d + 4) 181 [.ref 9, .int (nI i)] σ Q := by
  dsimp only at hQ
  have ha := rl_asgl (l := l) (A := A) (i := i) (x := rl_v l (i + 1))
  refine wq_m m181 (Nat.le_of_ble_eq_true rfl) (by decide) rfl ?_
  refine wq_l 1 d181_0 rfl rfl rfl rfl ?_
  refine wq_k 2 1 d181_1 (by decide) rfl ?_
  refine wq_a 3 d181_2 rfl rfl ?_
  rw [nI_1]
  refine wq_s 4 d181_3 rfl rfl (Nat.le_of_ble_eq_true rfl) rfl rfl ?_
  refine wq_l 5 d181_4 rfl rfl rfl rfl ?_
  refine wq_l 6 d181_5 rfl rfl rfl rfl ?_
  refine wq_l 7 d181_6 rfl rfl rfl rfl ?_
  refine wq_gr (ci := 9) (j := 0) (q := 3) 10 d181_7 rfl rfl rfl rfl ?_
  refine wq_l 11 d181_10 rfl rfl rfl rfl ?_
  refine wq_v 14 [_] d181_11 rfl rfl m66 rfl rfl (Nat.le_of_ble_eq_true rfl) rfl (ck66 (cr_S h) (by omega) ?_)
  refine wq_v 17 [_, _] d181_14 rfl rfl m182 rfl rfl (Nat.le_of_ble_eq_true rfl) rfl (cr182 hG h hB hs (by omega) hn hx ?_)
  refine wq_s 18 d181_17 rfl rfl (Nat.le_of_ble_eq_true rfl) rfl rfl ?_
  refine wq_l 19 d181_18 rfl rfl rfl rfl ?_
  refine wq_b 24 22 d181_19 rfl (by decide) rfl (fun c19 => ?_) (fun c19 => ?_)
  · -- pc 24
    have z19 : rl_asg l A i (rl_v l (i + 1)) = 0 := hp_inj (by omega) (by omega) c19
    rw [if_neg (fun z => z z19)] at hQ
    refine wq_l 25 d181_24 rfl rfl rfl rfl ?_
    refine wq_gr (ci := 9) (j := 0) (q := 3) 28 d181_25 rfl rfl rfl rfl ?_
    refine wq_l 29 d181_28 rfl rfl rfl rfl ?_
    refine wq_gr (ci := 9) (j := 0) (q := 3) 32 d181_29 rfl rfl rfl rfl ?_
    refine wq_l 33 d181_32 rfl rfl rfl rfl ?_
    refine wq_v 36 [_] d181_33 rfl rfl m63 rfl rfl (Nat.le_of_ble_eq_true rfl) rfl (ck63 (cr_S h) (by omega) ?_)
    refine wq_v 39 [_] d181_36 rfl rfl m71 rfl rfl (Nat.le_of_ble_eq_true rfl) rfl (ck71 h (by omega) ?_)
    refine wq_s 41 d181_39 rfl rfl (Nat.le_of_ble_eq_true rfl) rfl rfl ?_
    refine wq_l 43 d181_41 rfl rfl rfl rfl ?_
    refine wq_l 44 d181_43 rfl rfl rfl rfl ?_
    refine wq_gr (ci := 9) (j := 0) (q := 3) 47 d181_44 rfl rfl rfl rfl ?_
    refine wq_l 48 d181_47 rfl rfl rfl rfl ?_
    refine wq_v 51 [_] d181_48 rfl rfl m71 rfl rfl (Nat.le_of_ble_eq_true rfl) rfl (ck71 h (by omega) ?_)
    refine wq_vs 54 [_, _] d181_51 rfl rfl m173 rfl (Nat.le_of_ble_eq_true rfl) rfl (sp173 ?_)
    refine wq_b 61 57 d181_54 rfl (by decide) rfl (fun c54 => ?_) (fun c54 => ?_)
    · -- pc 61
      have f54 := b2z c54
      refine wq_k 63 31 d181_61 (by decide) rfl ?_
      refine wq_ri d181_63 (rfl) ?_
      first | (rw [if_pos f54] at hQ; exact hQ _ _ h (fun _ => rfl)) | (rw [if_neg (fun z => absurd (f54.symm.trans z) (by decide))] at hQ; exact hQ _ _ h (fun _ => rfl))
    · -- pc 57
      have f54 := b2n c54
      refine wq_k 58 0 d181_57 (by decide) rfl ?_
      refine wq_g 63 d181_58 (by decide) ?_
      refine wq_ri d181_63 (rfl) ?_
      first | (rw [if_pos f54] at hQ; exact hQ _ _ h (fun _ => rfl)) | (rw [if_neg (fun z => absurd (f54.symm.trans z) (by decide))] at hQ; exact hQ _ _ h (fun _ => rfl))
  · -- pc 22
    refine wq_l 23 d181_22 rfl rfl rfl rfl ?_
    refine wq_ri d181_23 (rfl) ?_
    rw [if_pos (fun z => c19 (by rw [z]; rfl))] at hQ
    exact hQ _ _ h (fun _ => rfl)
theorem cr184 {d : Nat} {l : List pg_N} {NN nx : Nat} {σ0 σ : pm_S} {A : rl_A} {Q : Option Value → pm_S → Prop} {i : Nat} (h : cr_I l NN σ0 σ nx A) (hp : pv_B A.1) (hB : A.1 ≠ []) (hs : rl_setl A) (hi : i < l.length) (hx : 0 ≤ (rl_v l i).toInt ∧ (rl_v l i).toInt < NN) (hQ : ∀ σ' A', cr_I l NN σ0 σ' nx A' → ((((rl_srt A (rl_v l i) 2, rl_me (rl_ce A i (nI (rl_var A (rl_v l i)).2.2.2.2.2)) i (rl_mean (rl_var A (rl_v l i)).2.2.1.toNatClampNeg)) : Nat × rl_A)).1 = 0 → A' = (((rl_srt A (rl_v l i) 2, rl_me (rl_ce A i (nI (rl_var A (rl_v l i)).2.2.2.2.2)) i (rl_mean (rl_var A (rl_v l i)).2.2.1.toNatClampNeg)) : Nat × rl_A)).2) → Q (some (.int (nI (((rl_srt A (rl_v l i) 2, rl_me (rl_ce A i (nI (rl_var A (rl_v l i)).2.2.2.2.2)) i (rl_mean (rl_var A (rl_v l i)).2.2.1.toNatClampNeg)) : Nat × rl_A)).1))) σ') : pm_call pm_Y0 (d + 3) 184 [.ref 9, .int (nI i)] σ Q := by
  dsimp only at hQ
  refine wq_m m184 (Nat.le_of_ble_eq_true rfl) (by decide) rfl ?_
  refine wq_l 1 d184_0 rfl rfl rfl rfl ?_
  refine wq_l 2 d184_1 rfl rfl rfl rfl ?_
  refine wq_gr (ci := 9) (j := 0) (q := 3) 5 d184_2 rfl rfl rfl rfl ?_
  refine wq_l 6 d184_5 rfl rfl rfl rfl ?_
  refine wq_v 9 [_] d184_6 rfl rfl m66 rfl rfl (Nat.le_of_ble_eq_true rfl) rfl (ck66 (cr_S h) (by omega) ?_)
  refine wq_v 12 [_] d184_9 rfl rfl m183 rfl rfl (Nat.le_of_ble_eq_true rfl) rfl (cr183 h hB hx (fun e9 => ?_) (fun i9 o9 v9 e9 f9 => ?_))
  · -- fork 9
    refine wq_s 13 d184_12 rfl rfl (Nat.le_of_ble_eq_true rfl) rfl rfl ?_
    refine wq_l 14 d184_13 rfl rfl rfl rfl ?_
    refine wq_k 15 (-1) d184_14 (by decide) rfl ?_
    refine wq_b 21 18 d184_15 rfl (by decide) rfl (fun c15 => absurd c15 (fun z => z rfl)) (fun c15 => ?_)
    refine wq_k 20 20 d184_18 (by decide) rfl ?_
    refine wq_ri d184_20 (rfl) ?_
    rw [rl_srn e9] at hQ
    exact hQ _ _ h (fun z => absurd (show (20 : Nat) = 0 from z) (by decide))
  · -- fork 9
    have hm9 := List.mem_of_find?_eq_some e9
    have hi9 : i9 < 4128 := by have := cv_lt f9; have := (h).2.2.2.2.2.1.1; omega
    refine wq_s 13 d184_12 rfl rfl (Nat.le_of_ble_eq_true rfl) rfl rfl ?_
    refine wq_l 14 d184_13 rfl rfl rfl rfl ?_
    refine wq_k 15 (-1) d184_14 (by decide) rfl ?_
    refine wq_b 21 18 d184_15 rfl (by decide) rfl (fun c15 => ?_) (fun c15 => absurd (hp_ne (by omega)) c15)
    refine wq_l 22 d184_21 rfl rfl rfl rfl ?_
    refine wq_gr (ci := 9) (j := 2) (q := 6) 25 d184_22 rfl rfl rfl rfl ?_
    refine wq_l 26 d184_25 rfl rfl rfl rfl ?_
    refine wq_v 29 [_] d184_26 rfl rfl m135 rfl rfl (Nat.le_of_ble_eq_true rfl) rfl (cf135 (h).2.2.2.2.2.1 (f9) (hs _ hm9) ?_)
    refine wq_k 31 10 d184_29 (by decide) rfl ?_
    refine wq_b 37 34 d184_31 rfl (by decide) rfl (fun c31 => ?_) (fun c31 => ?_)
    · -- pc 37
      refine wq_l 38 d184_37 rfl rfl rfl rfl ?_
      refine wq_gr (ci := 9) (j := 2) (q := 6) 41 d184_38 rfl rfl rfl rfl ?_
      refine wq_l 42 d184_41 rfl rfl rfl rfl ?_
      refine wq_v 45 [_] d184_42 rfl rfl m136 rfl rfl (Nat.le_of_ble_eq_true rfl) rfl (cf136 (h).2.2.2.2.2.1 (f9) (hs _ hm9) ?_)
      obtain ⟨q9, w9, w9t, w9k⟩ := ((pv_cur hp hB).2.2.2.2.1 _ hm9).2.2.2.1 (rl_s8 (s := 2) (by have := ((pv_cur hp hB).2.2.2.2.1 _ hm9).1; omega) (by decide) c31)
      have hl9 := h.2.2.2.2.1.1
      rw [List.length_tail] at w9
      have eq9 := nI_toInt (n := q9) (by omega)
      rw [rl_sr0 e9 (rl_s8 (s := 2) (by have := ((pv_cur hp hB).2.2.2.2.1 _ hm9).1; omega) (by decide) c31), rl_vrs e9, w9t, nI_clamp (by omega)] at hQ
      rw [w9t]
      refine wq_s 46 d184_45 rfl rfl (Nat.le_of_ble_eq_true rfl) rfl rfl ?_
      refine wq_l 47 d184_46 rfl rfl rfl rfl ?_
      refine wq_k 49 9 d184_47 (by decide) rfl ?_
      refine wq_b 56 52 d184_49 rfl (by decide) rfl (fun c49 => ?_) (fun c49 => ?_)
      · -- pc 56
        have c49 : q9 < 9 := by rw [i_lt, eq9] at c49; have c49 : (q9 : Int) < 9 := c49; omega
        refine wq_k 57 0 d184_56 (by decide) rfl ?_
        refine wq_s 59 d184_57 rfl rfl (Nat.le_of_ble_eq_true rfl) rfl rfl ?_
        refine wq_l 60 d184_59 rfl rfl rfl rfl ?_
        refine wq_gr (ci := 9) (j := 0) (q := 3) 63 d184_60 rfl rfl rfl rfl ?_
        refine wq_l 64 d184_63 rfl rfl rfl rfl ?_
        refine wq_l 65 d184_64 rfl rfl rfl rfl ?_
        refine wq_gr (ci := 9) (j := 2) (q := 6) 68 d184_65 rfl rfl rfl rfl ?_
        refine wq_l 69 d184_68 rfl rfl rfl rfl ?_
        refine wq_v 72 [_] d184_69 rfl rfl m137 rfl rfl (Nat.le_of_ble_eq_true rfl) rfl (cf137 (h).2.2.2.2.2.1 (f9) (hs _ hm9) ?_)
        refine wq_v 75 [_, _] d184_72 rfl rfl m67 rfl rfl (Nat.le_of_ble_eq_true rfl) rfl (ck67 h (by omega) (fun σ72 h72 => ?_))
        refine wq_l 76 d184_75 rfl rfl rfl rfl ?_
        refine wq_gr (ci := 9) (j := 0) (q := 3) 79 d184_76 rfl rfl rfl rfl ?_
        refine wq_l 80 d184_79 rfl rfl rfl rfl ?_
        refine wq_l 82 d184_80 rfl rfl rfl rfl ?_
        refine wq_b 92 85 d184_82 rfl (by decide) rfl (fun c82 => ?_) (fun c82 => absurd (rfl) c82)
        refine wq_k 94 100 d184_92 (by decide) rfl ?_
        refine wq_l 95 d184_94 rfl rfl rfl rfl ?_
        refine wq_a 96 d184_95 rfl rfl ?_
        rw [show (100 : Int32) + nI q9 = nI (100 + q9) from nI_add 100 q9]
        refine wq_v 99 [_, _] d184_96 rfl rfl m68 rfl rfl (Nat.le_of_ble_eq_true rfl) rfl (ck68 h72 (by omega) (fun σ96 h96 => ?_))
        refine wq_k 100 0 d184_99 (by decide) rfl ?_
        refine wq_ri d184_100 (rfl) ?_
        refine hQ _ _ h96 (fun _ => ?_)
        unfold rl_mean
        rw [if_pos c49]
      · -- pc 52
        have c49 : 9 ≤ q9 := by rw [i_lt, eq9] at c49; have c49 : ¬ (q9 : Int) < 9 := c49; omega
        refine wq_k 53 1 d184_52 (by decide) rfl ?_
        refine wq_g 57 d184_53 (by decide) ?_
        refine wq_s 59 d184_57 rfl rfl (Nat.le_of_ble_eq_true rfl) rfl rfl ?_
        refine wq_l 60 d184_59 rfl rfl rfl rfl ?_
        refine wq_gr (ci := 9) (j := 0) (q := 3) 63 d184_60 rfl rfl rfl rfl ?_
        refine wq_l 64 d184_63 rfl rfl rfl rfl ?_
        refine wq_l 65 d184_64 rfl rfl rfl rfl ?_
        refine wq_gr (ci := 9) (j := 2) (q := 6) 68 d184_65 rfl rfl rfl rfl ?_
        refine wq_l 69 d184_68 rfl rfl rfl rfl ?_
        refine wq_v 72 [_] d184_69 rfl rfl m137 rfl rfl (Nat.le_of_ble_eq_true rfl) rfl (cf137 (h).2.2.2.2.2.1 (f9) (hs _ hm9) ?_)
        refine wq_v 75 [_, _] d184_72 rfl rfl m67 rfl rfl (Nat.le_of_ble_eq_true rfl) rfl (ck67 h (by omega) (fun σ72 h72 => ?_))
        refine wq_l 76 d184_75 rfl rfl rfl rfl ?_
        refine wq_gr (ci := 9) (j := 0) (q := 3) 79 d184_76 rfl rfl rfl rfl ?_
        refine wq_l 80 d184_79 rfl rfl rfl rfl ?_
        refine wq_l 82 d184_80 rfl rfl rfl rfl ?_
        refine wq_b 92 85 d184_82 rfl (by decide) rfl (fun c82 => absurd c82 (by decide)) (fun c82 => ?_)
        refine wq_l 86 d184_85 rfl rfl rfl rfl ?_
        refine wq_k 88 9 d184_86 (by decide) rfl ?_
        refine wq_a 89 d184_88 rfl rfl ?_
        rw [nI_s9 c49]
        refine wq_g 96 d184_89 (by decide) ?_
        skip
        refine wq_v 99 [_, _] d184_96 rfl rfl m68 rfl rfl (Nat.le_of_ble_eq_true rfl) rfl (ck68 h72 (by omega) (fun σ96 h96 => ?_))
        refine wq_k 100 0 d184_99 (by decide) rfl ?_
        refine wq_ri d184_100 (rfl) ?_
        refine hQ _ _ h96 (fun _ => ?_)
        unfold rl_mean
        rw [if_neg (by omega)]
    · -- pc 34
      refine wq_k 36 21 d184_34 (by decide) rfl ?_
      refine wq_ri d184_36 (rfl) ?_
      rw [rl_sr1 e9 (fun z => c31 (by rw [z]; rfl))] at hQ
      exact hQ _ _ h (fun z => absurd (show (21 : Nat) = 0 from z) (by decide))
theorem cr187 {d : Nat} {l : List pg_N} {NN nx : Nat} {σ0 σ : pm_S} {A : rl_A} {Q : Option Value → pm_S → Prop} {i e : Nat} (hG : lg_G l NN) (h : cr_I l NN σ0 σ nx A) (hi : i + 1 < l.length) (he : e + 1 = i + rl_z l i) (hel : e < l.length) (hQ : ∀ σ' A', cr_I l NN σ0 σ' nx A' → ((((if rl_k l (i + 1) = 31 ∨ rl_k l e = 31 ∨ rl_v l e < rl_v l (i + 1) then 35 else 0, A) : Nat × rl_A)).1 = 0 → A' = (((if rl_k l (i + 1) = 31 ∨ rl_k l e = 31 ∨ rl_v l e < rl_v l (i + 1) then 35 else 0, A) : Nat × rl_A)).2) → Q (some (.int (nI (((if rl_k l (i + 1) = 31 ∨ rl_k l e = 31 ∨ rl_v l e < rl_v l (i + 1) then 35 else 0, A) : Nat × rl_A)).1))) σ') : pm_call pm_Y0 (d + 2) 187 [.ref 9, .int (nI i)] σ Q := by
  dsimp only at hQ
  have k1 := (lg_V hG hi).1
  have k2 := (lg_V hG hel).1
  refine wq_m m187 (Nat.le_of_ble_eq_true rfl) (by decide) rfl ?_
  refine wq_l 1 d187_0 rfl rfl rfl rfl ?_
  refine wq_k 2 1 d187_1 (by decide) rfl ?_
  refine wq_a 3 d187_2 rfl rfl ?_
  rw [nI_1]
  refine wq_s 4 d187_3 rfl rfl (Nat.le_of_ble_eq_true rfl) rfl rfl ?_
  refine wq_l 5 d187_4 rfl rfl rfl rfl ?_
  refine wq_gr (ci := 9) (j := 0) (q := 3) 8 d187_5 rfl rfl rfl rfl ?_
  refine wq_l 9 d187_8 rfl rfl rfl rfl ?_
  refine wq_v 12 [_] d187_9 rfl rfl m63 rfl rfl (Nat.le_of_ble_eq_true rfl) rfl (ck63 (cr_S h) (by omega) ?_)
  refine wq_k 13 1 d187_12 (by decide) rfl ?_
  refine wq_a 14 d187_13 rfl rfl ?_
  rw [← he, nI_pred]
  refine wq_s 15 d187_14 rfl rfl (Nat.le_of_ble_eq_true rfl) rfl rfl ?_
  refine wq_l 16 d187_15 rfl rfl rfl rfl ?_
  refine wq_gr (ci := 9) (j := 0) (q := 3) 19 d187_16 rfl rfl rfl rfl ?_
  refine wq_l 20 d187_19 rfl rfl rfl rfl ?_
  refine wq_v 23 [_] d187_20 rfl rfl m65 rfl rfl (Nat.le_of_ble_eq_true rfl) rfl (ck65 (cr_S h) (by omega) ?_)
  refine wq_k 25 31 d187_23 (by decide) rfl ?_
  refine wq_b 41 28 d187_25 rfl (by decide) rfl (fun c25 => ?_) (fun c25 => ?_)
  · -- pc 41
    refine wq_k 43 35 d187_41 (by decide) rfl ?_
    refine wq_ri d187_43 (rfl) ?_
    rw [if_pos (Or.inl (show rl_k l (i + 1) = 31 from hp_inj (by omega) (by omega) c25))] at hQ
    exact hQ _ _ h (fun z => absurd (show (35 : Nat) = 0 from z) (by decide))
  · -- pc 28
    refine wq_l 29 d187_28 rfl rfl rfl rfl ?_
    refine wq_gr (ci := 9) (j := 0) (q := 3) 32 d187_29 rfl rfl rfl rfl ?_
    refine wq_l 33 d187_32 rfl rfl rfl rfl ?_
    refine wq_v 36 [_] d187_33 rfl rfl m65 rfl rfl (Nat.le_of_ble_eq_true rfl) rfl (ck65 (cr_S h) (by omega) ?_)
    refine wq_k 38 31 d187_36 (by decide) rfl ?_
    refine wq_b 44 41 d187_38 rfl (by decide) rfl (fun c38 => ?_) (fun c38 => ?_)
    · -- pc 44
      refine wq_l 45 d187_44 rfl rfl rfl rfl ?_
      refine wq_gr (ci := 9) (j := 0) (q := 3) 48 d187_45 rfl rfl rfl rfl ?_
      refine wq_l 49 d187_48 rfl rfl rfl rfl ?_
      refine wq_v 52 [_] d187_49 rfl rfl m66 rfl rfl (Nat.le_of_ble_eq_true rfl) rfl (ck66 (cr_S h) (by omega) ?_)
      refine wq_l 53 d187_52 rfl rfl rfl rfl ?_
      refine wq_gr (ci := 9) (j := 0) (q := 3) 56 d187_53 rfl rfl rfl rfl ?_
      refine wq_l 57 d187_56 rfl rfl rfl rfl ?_
      refine wq_v 60 [_] d187_57 rfl rfl m66 rfl rfl (Nat.le_of_ble_eq_true rfl) rfl (ck66 (cr_S h) (by omega) ?_)
      refine wq_b 68 63 d187_60 rfl (by decide) rfl (fun c60 => ?_) (fun c60 => ?_)
      · -- pc 68
        refine wq_k 69 0 d187_68 (by decide) rfl ?_
        refine wq_ri d187_69 (rfl) ?_
        rw [if_neg (fun z => z.elim (fun w => c25 (congrArg nI w)) (fun w => w.elim (fun u => c38 (congrArg nI u)) (fun u => Int32.not_lt.mpr c60 u)))] at hQ
        exact hQ _ _ h (fun _ => rfl)
      · -- pc 63
        refine wq_k 65 35 d187_63 (by decide) rfl ?_
        refine wq_g 69 d187_65 (by decide) ?_
        refine wq_ri d187_69 (rfl) ?_
        rw [if_pos (Or.inr (Or.inr (Int32.not_le.mp c60)))] at hQ
        exact hQ _ _ h (fun _ => rfl)
    · -- pc 41
      refine wq_k 43 35 d187_41 (by decide) rfl ?_
      refine wq_ri d187_43 (rfl) ?_
      rw [if_pos (Or.inr (Or.inl (show rl_k l e = 31 from hp_inj (by omega) (by omega) (Classical.not_not.mp c38))))] at hQ
      exact hQ _ _ h (fun _ => rfl)
theorem cr193 {d : Nat} {l : List pg_N} {NN nx : Nat} {σ0 σ : pm_S} {A : rl_A} {Q : Option Value → pm_S → Prop} {i p : Nat} (hG : lg_G l NN) (h : cr_I l NN σ0 σ nx A) (hB : A.1 ≠ []) (hs : rl_setl A) (hi : i + 1 < l.length) (hn : i < nx) (hpp : (rl_up l i).head? = some p) (hpl : p < l.length) (hx : 0 ≤ (rl_v l (i + 1)).toInt ∧ (rl_v l (i + 1)).toInt < NN) (hQ : ∀ σ' A', cr_I l NN σ0 σ' nx A' → ((((if i + rl_z l i ≠ p + rl_z l p then 39 else if A.2.1 (i + 1) ≠ 0 then 41 else rl_asg l A i (rl_v l (i + 1)), A) : Nat × rl_A)).1 = 0 → A' = (((if i + rl_z l i ≠ p + rl_z l p then 39 else if A.2.1 (i + 1) ≠ 0 then 41 else rl_asg l A i (rl_v l (i + 1)), A) : Nat × rl_A)).2) → Q (some (.int (nI (((if i + rl_z l i ≠ p + rl_z l p then 39 else if A.2.1 (i + 1) ≠ 0 then 41 else rl_asg l A i (rl_v l (i + 1)), A) : Nat × rl_A)).1))) σ') : pm_call pm_Y0 (d + 4) 193 [.ref 9, .int (nI i)] σ Q := by
  dsimp only at hQ
  have hl := h.2.1.1
  have z1 := (rl_zc hG.1 hpl).2
  have z2 := (rl_zc hG.1 (show i < l.length by omega)).2
  refine wq_m m193 (Nat.le_of_ble_eq_true rfl) (by decide) rfl ?_
  refine wq_l 1 d193_0 rfl rfl rfl rfl ?_
  refine wq_gr (ci := 9) (j := 0) (q := 3) 4 d193_1 rfl rfl rfl rfl ?_
  refine wq_l 5 d193_4 rfl rfl rfl rfl ?_
  refine wq_v 8 [_] d193_5 rfl rfl m63 rfl rfl (Nat.le_of_ble_eq_true rfl) rfl (ck63 (cr_S h) (by omega) ?_)
  refine wq_l 9 d193_8 rfl rfl rfl rfl ?_
  refine wq_gr (ci := 9) (j := 0) (q := 3) 12 d193_9 rfl rfl rfl rfl ?_
  refine wq_l 13 d193_12 rfl rfl rfl rfl ?_
  refine wq_gr (ci := 9) (j := 0) (q := 3) 16 d193_13 rfl rfl rfl rfl ?_
  refine wq_l 17 d193_16 rfl rfl rfl rfl ?_
  refine wq_v 20 [_] d193_17 rfl rfl m69 rfl rfl (Nat.le_of_ble_eq_true rfl) rfl (ck69 h (by omega) hn ?_)
  rw [hpp]
  refine wq_v 23 [_] d193_20 rfl rfl m63 rfl rfl (Nat.le_of_ble_eq_true rfl) rfl (ck63 (i := p) (cr_S h) (by omega) ?_)
  refine wq_b 29 26 d193_23 rfl (by decide) rfl (fun c23 => ?_) (fun c23 => ?_)
  · -- pc 29
    rw [if_neg (fun z => z (hp_inj (by omega) (by omega) c23))] at hQ
    refine wq_l 30 d193_29 rfl rfl rfl rfl ?_
    refine wq_gr (ci := 9) (j := 0) (q := 3) 33 d193_30 rfl rfl rfl rfl ?_
    refine wq_l 34 d193_33 rfl rfl rfl rfl ?_
    refine wq_k 35 1 d193_34 (by decide) rfl ?_
    refine wq_a 36 d193_35 rfl rfl ?_
    rw [nI_1]
    refine wq_v 39 [_] d193_36 rfl rfl m71 rfl rfl (Nat.le_of_ble_eq_true rfl) rfl (ck71 h (by omega) ?_)
    refine wq_b 45 42 d193_39 rfl (by decide) rfl (fun c39 => ?_) (fun c39 => ?_)
    · -- pc 45
      rw [if_neg (fun z => z c39)] at hQ
      refine wq_l 46 d193_45 rfl rfl rfl rfl ?_
      refine wq_l 47 d193_46 rfl rfl rfl rfl ?_
      refine wq_l 48 d193_47 rfl rfl rfl rfl ?_
      refine wq_gr (ci := 9) (j := 0) (q := 3) 51 d193_48 rfl rfl rfl rfl ?_
      refine wq_l 52 d193_51 rfl rfl rfl rfl ?_
      refine wq_k 53 1 d193_52 (by decide) rfl ?_
      refine wq_a 54 d193_53 rfl rfl ?_
      rw [nI_1]
      refine wq_v 57 [_] d193_54 rfl rfl m66 rfl rfl (Nat.le_of_ble_eq_true rfl) rfl (ck66 (cr_S h) (by omega) ?_)
      refine wq_v 60 [_, _] d193_57 rfl rfl m182 rfl rfl (Nat.le_of_ble_eq_true rfl) rfl (cr182 hG h hB hs (by omega) hn hx ?_)
      refine wq_ri d193_60 (rfl) ?_
      exact hQ _ _ h (fun _ => rfl)
    · -- pc 42
      refine wq_k 44 41 d193_42 (by decide) rfl ?_
      refine wq_ri d193_44 (rfl) ?_
      rw [if_pos c39] at hQ
      exact hQ _ _ h (fun z => absurd (show (41 : Nat) = 0 from z) (by decide))
  · -- pc 26
    refine wq_k 28 39 d193_26 (by decide) rfl ?_
    refine wq_ri d193_28 (rfl) ?_
    rw [if_pos (fun z => c23 (by rw [z]))] at hQ
    exact hQ _ _ h (fun z => absurd (show (39 : Nat) = 0 from z) (by decide))
theorem cr194 {d : Nat} {l : List pg_N} {NN nx : Nat} {σ0 σ : pm_S} {A : rl_A} {Q : Option Value → pm_S → Prop} {i p q : Nat} (hG : lg_G l NN) (h : cr_I l NN σ0 σ nx A) (hi : i < l.length) (hn : i < nx) (hpp : (rl_up l i).head? = some p) (hpl : p < i) (hqp : (rl_up l p).head? = some q) (hql : q < p) (hQ : ∀ σ' A', cr_I l NN σ0 σ' nx A' → ((((if p + rl_z l p = q + rl_z l q then 40 else 0, A) : Nat × rl_A)).1 = 0 → A' = (((if p + rl_z l p = q + rl_z l q then 40 else 0, A) : Nat × rl_A)).2) → Q (some (.int (nI (((if p + rl_z l p = q + rl_z l q then 40 else 0, A) : Nat × rl_A)).1))) σ') : pm_call pm_Y0 (d + 2) 194 [.ref 9, .int (nI i)] σ Q := by
  dsimp only at hQ
  have hl := h.2.1.1
  have z1 := (rl_zc hG.1 (show p < l.length by omega)).2
  have z2 := (rl_zc hG.1 (show q < l.length by omega)).2
  refine wq_m m194 (Nat.le_of_ble_eq_true rfl) (by decide) rfl ?_
  refine wq_l 1 d194_0 rfl rfl rfl rfl ?_
  refine wq_gr (ci := 9) (j := 0) (q := 3) 4 d194_1 rfl rfl rfl rfl ?_
  refine wq_l 5 d194_4 rfl rfl rfl rfl ?_
  refine wq_v 8 [_] d194_5 rfl rfl m69 rfl rfl (Nat.le_of_ble_eq_true rfl) rfl (ck69 h (by omega) hn ?_)
  rw [hpp]
  refine wq_s 9 d194_8 rfl rfl (Nat.le_of_ble_eq_true rfl) rfl rfl ?_
  refine wq_l 10 d194_9 rfl rfl rfl rfl ?_
  refine wq_gr (ci := 9) (j := 0) (q := 3) 13 d194_10 rfl rfl rfl rfl ?_
  refine wq_l 14 d194_13 rfl rfl rfl rfl ?_
  refine wq_v 17 [_] d194_14 rfl rfl m63 rfl rfl (Nat.le_of_ble_eq_true rfl) rfl (ck63 (i := p) (cr_S h) (by omega) ?_)
  refine wq_l 18 d194_17 rfl rfl rfl rfl ?_
  refine wq_gr (ci := 9) (j := 0) (q := 3) 21 d194_18 rfl rfl rfl rfl ?_
  refine wq_l 22 d194_21 rfl rfl rfl rfl ?_
  refine wq_gr (ci := 9) (j := 0) (q := 3) 25 d194_22 rfl rfl rfl rfl ?_
  refine wq_l 26 d194_25 rfl rfl rfl rfl ?_
  refine wq_v 29 [_] d194_26 rfl rfl m69 rfl rfl (Nat.le_of_ble_eq_true rfl) rfl (ck69 (i := p) h (by omega) (by omega) ?_)
  rw [hqp]
  refine wq_v 32 [_] d194_29 rfl rfl m63 rfl rfl (Nat.le_of_ble_eq_true rfl) rfl (ck63 (i := q) (cr_S h) (by omega) ?_)
  refine wq_b 40 35 d194_32 rfl (by decide) rfl (fun c32 => ?_) (fun c32 => ?_)
  · -- pc 40
    refine wq_k 41 0 d194_40 (by decide) rfl ?_
    refine wq_ri d194_41 (rfl) ?_
    rw [if_neg (fun z => c32 (congrArg nI z))] at hQ
    exact hQ _ _ h (fun _ => rfl)
  · -- pc 35
    refine wq_k 37 40 d194_35 (by decide) rfl ?_
    refine wq_g 41 d194_37 (by decide) ?_
    refine wq_ri d194_41 (rfl) ?_
    rw [if_pos (hp_inj (by omega) (by omega) (Classical.not_not.mp c32))] at hQ
    exact hQ _ _ h (fun _ => rfl)
