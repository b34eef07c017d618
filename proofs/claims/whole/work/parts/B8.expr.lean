theorem d165_0 : decode prog_3_method_6_code 0 = .ok (.aload_n 0, 1) := by decide +kernel
theorem d165_1 : decode prog_3_method_6_code 1 = .ok (.getfield 25, 3) := by decide +kernel
theorem d165_4 : decode prog_3_method_6_code 4 = .ok (.aload_n 0, 1) := by decide +kernel
theorem d165_5 : decode prog_3_method_6_code 5 = .ok (.getfield 15, 3) := by decide +kernel
theorem d165_8 : decode prog_3_method_6_code 8 = .ok (.invokevirtual 56, 3) := by decide +kernel
theorem d165_11 : decode prog_3_method_6_code 11 = .ok (.aload_n 0, 1) := by decide +kernel
theorem d165_12 : decode prog_3_method_6_code 12 = .ok (.getfield 9, 3) := by decide +kernel
theorem d165_15 : decode prog_3_method_6_code 15 = .ok (.iload_n 1, 1) := by decide +kernel
theorem d165_16 : decode prog_3_method_6_code 16 = .ok (.invokevirtual 34, 3) := by decide +kernel
theorem d165_19 : decode prog_3_method_6_code 19 = .ok (.invokevirtual 60, 3) := by decide +kernel
theorem d165_22 : decode prog_3_method_6_code 22 = .ok (.istore_n 2, 1) := by decide +kernel
theorem d165_23 : decode prog_3_method_6_code 23 = .ok (.iload_n 2, 1) := by decide +kernel
theorem d165_24 : decode prog_3_method_6_code 24 = .ok (.iconst (-1), 1) := by decide +kernel
theorem d165_25 : decode prog_3_method_6_code 25 = .ok (.if_icmp .ne 6, 3) := by decide +kernel
theorem d165_28 : decode prog_3_method_6_code 28 = .ok (.bipush 20, 2) := by decide +kernel
theorem d165_30 : decode prog_3_method_6_code 30 = .ok (.ireturn, 1) := by decide +kernel
theorem d165_31 : decode prog_3_method_6_code 31 = .ok (.aload_n 0, 1) := by decide +kernel
theorem d165_32 : decode prog_3_method_6_code 32 = .ok (.getfield 25, 3) := by decide +kernel
theorem d165_35 : decode prog_3_method_6_code 35 = .ok (.iload_n 2, 1) := by decide +kernel
theorem d165_36 : decode prog_3_method_6_code 36 = .ok (.invokevirtual 66, 3) := by decide +kernel
theorem d165_39 : decode prog_3_method_6_code 39 = .ok (.bipush 8, 2) := by decide +kernel
theorem d165_41 : decode prog_3_method_6_code 41 = .ok (.if_icmp .eq 6, 3) := by decide +kernel
theorem d165_44 : decode prog_3_method_6_code 44 = .ok (.bipush 21, 2) := by decide +kernel
theorem d165_46 : decode prog_3_method_6_code 46 = .ok (.ireturn, 1) := by decide +kernel
theorem d165_47 : decode prog_3_method_6_code 47 = .ok (.aload_n 0, 1) := by decide +kernel
theorem d165_48 : decode prog_3_method_6_code 48 = .ok (.getfield 9, 3) := by decide +kernel
theorem d165_51 : decode prog_3_method_6_code 51 = .ok (.iload_n 1, 1) := by decide +kernel
theorem d165_52 : decode prog_3_method_6_code 52 = .ok (.aload_n 0, 1) := by decide +kernel
theorem d165_53 : decode prog_3_method_6_code 53 = .ok (.getfield 25, 3) := by decide +kernel
theorem d165_56 : decode prog_3_method_6_code 56 = .ok (.iload_n 2, 1) := by decide +kernel
theorem d165_57 : decode prog_3_method_6_code 57 = .ok (.invokevirtual 71, 3) := by decide +kernel
theorem d165_60 : decode prog_3_method_6_code 60 = .ok (.invokevirtual 37, 3) := by decide +kernel
theorem d165_63 : decode prog_3_method_6_code 63 = .ok (.aload_n 0, 1) := by decide +kernel
theorem d165_64 : decode prog_3_method_6_code 64 = .ok (.getfield 9, 3) := by decide +kernel
theorem d165_67 : decode prog_3_method_6_code 67 = .ok (.iload_n 1, 1) := by decide +kernel
theorem d165_68 : decode prog_3_method_6_code 68 = .ok (.aload_n 0, 1) := by decide +kernel
theorem d165_69 : decode prog_3_method_6_code 69 = .ok (.getfield 25, 3) := by decide +kernel
theorem d165_72 : decode prog_3_method_6_code 72 = .ok (.iload_n 2, 1) := by decide +kernel
theorem d165_73 : decode prog_3_method_6_code 73 = .ok (.invokevirtual 74, 3) := by decide +kernel
theorem d165_76 : decode prog_3_method_6_code 76 = .ok (.invokevirtual 77, 3) := by decide +kernel
theorem d165_79 : decode prog_3_method_6_code 79 = .ok (.iconst 0, 1) := by decide +kernel
theorem d165_80 : decode prog_3_method_6_code 80 = .ok (.ireturn, 1) := by decide +kernel
theorem m165 : pm_m 165 = some (⟨"TypeRules$Expressions", "variableFault", "(I)I"⟩, prog_3_method_6_code, 3, (some FieldType.int), 8, 1, 9) := rfl
theorem d167_0 : decode prog_3_method_7_code 0 = .ok (.aload_n 0, 1) := by decide +kernel
theorem d167_1 : decode prog_3_method_7_code 1 = .ok (.getfield 25, 3) := by decide +kernel
theorem d167_4 : decode prog_3_method_7_code 4 = .ok (.aload_n 0, 1) := by decide +kernel
theorem d167_5 : decode prog_3_method_7_code 5 = .ok (.getfield 15, 3) := by decide +kernel
theorem d167_8 : decode prog_3_method_7_code 8 = .ok (.invokevirtual 56, 3) := by decide +kernel
theorem d167_11 : decode prog_3_method_7_code 11 = .ok (.aload_n 0, 1) := by decide +kernel
theorem d167_12 : decode prog_3_method_7_code 12 = .ok (.getfield 9, 3) := by decide +kernel
theorem d167_15 : decode prog_3_method_7_code 15 = .ok (.iload_n 1, 1) := by decide +kernel
theorem d167_16 : decode prog_3_method_7_code 16 = .ok (.invokevirtual 34, 3) := by decide +kernel
theorem d167_19 : decode prog_3_method_7_code 19 = .ok (.invokevirtual 60, 3) := by decide +kernel
theorem d167_22 : decode prog_3_method_7_code 22 = .ok (.istore_n 2, 1) := by decide +kernel
theorem d167_23 : decode prog_3_method_7_code 23 = .ok (.iload_n 2, 1) := by decide +kernel
theorem d167_24 : decode prog_3_method_7_code 24 = .ok (.iconst (-1), 1) := by decide +kernel
theorem d167_25 : decode prog_3_method_7_code 25 = .ok (.if_icmp .ne 6, 3) := by decide +kernel
theorem d167_28 : decode prog_3_method_7_code 28 = .ok (.bipush 20, 2) := by decide +kernel
theorem d167_30 : decode prog_3_method_7_code 30 = .ok (.ireturn, 1) := by decide +kernel
theorem d167_31 : decode prog_3_method_7_code 31 = .ok (.aload_n 0, 1) := by decide +kernel
theorem d167_32 : decode prog_3_method_7_code 32 = .ok (.getfield 25, 3) := by decide +kernel
theorem d167_35 : decode prog_3_method_7_code 35 = .ok (.iload_n 2, 1) := by decide +kernel
theorem d167_36 : decode prog_3_method_7_code 36 = .ok (.invokevirtual 66, 3) := by decide +kernel
theorem d167_39 : decode prog_3_method_7_code 39 = .ok (.bipush 9, 2) := by decide +kernel
theorem d167_41 : decode prog_3_method_7_code 41 = .ok (.if_icmp .eq 6, 3) := by decide +kernel
theorem d167_44 : decode prog_3_method_7_code 44 = .ok (.bipush 21, 2) := by decide +kernel
theorem d167_46 : decode prog_3_method_7_code 46 = .ok (.ireturn, 1) := by decide +kernel
theorem d167_47 : decode prog_3_method_7_code 47 = .ok (.aload_n 0, 1) := by decide +kernel
theorem d167_48 : decode prog_3_method_7_code 48 = .ok (.getfield 9, 3) := by decide +kernel
theorem d167_51 : decode prog_3_method_7_code 51 = .ok (.iload_n 1, 1) := by decide +kernel
theorem d167_52 : decode prog_3_method_7_code 52 = .ok (.iconst 1, 1) := by decide +kernel
theorem d167_53 : decode prog_3_method_7_code 53 = .ok (.iadd, 1) := by decide +kernel
theorem d167_54 : decode prog_3_method_7_code 54 = .ok (.invokevirtual 80, 3) := by decide +kernel
theorem d167_57 : decode prog_3_method_7_code 57 = .ok (.invokestatic 83, 3) := by decide +kernel
theorem d167_60 : decode prog_3_method_7_code 60 = .ok (.ifCond .ne 6, 3) := by decide +kernel
theorem d167_63 : decode prog_3_method_7_code 63 = .ok (.bipush 22, 2) := by decide +kernel
theorem d167_65 : decode prog_3_method_7_code 65 = .ok (.ireturn, 1) := by decide +kernel
theorem d167_66 : decode prog_3_method_7_code 66 = .ok (.aload_n 0, 1) := by decide +kernel
theorem d167_67 : decode prog_3_method_7_code 67 = .ok (.getfield 9, 3) := by decide +kernel
theorem d167_70 : decode prog_3_method_7_code 70 = .ok (.iload_n 1, 1) := by decide +kernel
theorem d167_71 : decode prog_3_method_7_code 71 = .ok (.aload_n 0, 1) := by decide +kernel
theorem d167_72 : decode prog_3_method_7_code 72 = .ok (.getfield 25, 3) := by decide +kernel
theorem d167_75 : decode prog_3_method_7_code 75 = .ok (.iload_n 2, 1) := by decide +kernel
theorem d167_76 : decode prog_3_method_7_code 76 = .ok (.invokevirtual 71, 3) := by decide +kernel
theorem d167_79 : decode prog_3_method_7_code 79 = .ok (.invokevirtual 37, 3) := by decide +kernel
theorem d167_82 : decode prog_3_method_7_code 82 = .ok (.aload_n 0, 1) := by decide +kernel
theorem d167_83 : decode prog_3_method_7_code 83 = .ok (.getfield 9, 3) := by decide +kernel
theorem d167_86 : decode prog_3_method_7_code 86 = .ok (.iload_n 1, 1) := by decide +kernel
theorem d167_87 : decode prog_3_method_7_code 87 = .ok (.aload_n 0, 1) := by decide +kernel
theorem d167_88 : decode prog_3_method_7_code 88 = .ok (.getfield 25, 3) := by decide +kernel
theorem d167_91 : decode prog_3_method_7_code 91 = .ok (.iload_n 2, 1) := by decide +kernel
theorem d167_92 : decode prog_3_method_7_code 92 = .ok (.invokevirtual 74, 3) := by decide +kernel
theorem d167_95 : decode prog_3_method_7_code 95 = .ok (.invokevirtual 77, 3) := by decide +kernel
theorem d167_98 : decode prog_3_method_7_code 98 = .ok (.iconst 0, 1) := by decide +kernel
theorem d167_99 : decode prog_3_method_7_code 99 = .ok (.ireturn, 1) := by decide +kernel
theorem m167 : pm_m 167 = some (⟨"TypeRules$Expressions", "elementFault", "(I)I"⟩, prog_3_method_7_code, 3, (some FieldType.int), 8, 1, 9) := rfl
theorem d169_0 : decode prog_3_method_8_code 0 = .ok (.aload_n 0, 1) := by decide +kernel
theorem d169_1 : decode prog_3_method_8_code 1 = .ok (.getfield 25, 3) := by decide +kernel
theorem d169_4 : decode prog_3_method_8_code 4 = .ok (.aload_n 0, 1) := by decide +kernel
theorem d169_5 : decode prog_3_method_8_code 5 = .ok (.getfield 15, 3) := by decide +kernel
theorem d169_8 : decode prog_3_method_8_code 8 = .ok (.invokevirtual 56, 3) := by decide +kernel
theorem d169_11 : decode prog_3_method_8_code 11 = .ok (.aload_n 0, 1) := by decide +kernel
theorem d169_12 : decode prog_3_method_8_code 12 = .ok (.getfield 9, 3) := by decide +kernel
theorem d169_15 : decode prog_3_method_8_code 15 = .ok (.iload_n 1, 1) := by decide +kernel
theorem d169_16 : decode prog_3_method_8_code 16 = .ok (.invokevirtual 34, 3) := by decide +kernel
theorem d169_19 : decode prog_3_method_8_code 19 = .ok (.invokevirtual 60, 3) := by decide +kernel
theorem d169_22 : decode prog_3_method_8_code 22 = .ok (.istore_n 2, 1) := by decide +kernel
theorem d169_23 : decode prog_3_method_8_code 23 = .ok (.iload_n 2, 1) := by decide +kernel
theorem d169_24 : decode prog_3_method_8_code 24 = .ok (.iconst (-1), 1) := by decide +kernel
theorem d169_25 : decode prog_3_method_8_code 25 = .ok (.if_icmp .ne 6, 3) := by decide +kernel
theorem d169_28 : decode prog_3_method_8_code 28 = .ok (.bipush 20, 2) := by decide +kernel
theorem d169_30 : decode prog_3_method_8_code 30 = .ok (.ireturn, 1) := by decide +kernel
theorem d169_31 : decode prog_3_method_8_code 31 = .ok (.aload_n 0, 1) := by decide +kernel
theorem d169_32 : decode prog_3_method_8_code 32 = .ok (.getfield 25, 3) := by decide +kernel
theorem d169_35 : decode prog_3_method_8_code 35 = .ok (.iload_n 2, 1) := by decide +kernel
theorem d169_36 : decode prog_3_method_8_code 36 = .ok (.invokevirtual 66, 3) := by decide +kernel
theorem d169_39 : decode prog_3_method_8_code 39 = .ok (.bipush 10, 2) := by decide +kernel
theorem d169_41 : decode prog_3_method_8_code 41 = .ok (.if_icmp .eq 6, 3) := by decide +kernel
theorem d169_44 : decode prog_3_method_8_code 44 = .ok (.bipush 21, 2) := by decide +kernel
theorem d169_46 : decode prog_3_method_8_code 46 = .ok (.ireturn, 1) := by decide +kernel
theorem d169_47 : decode prog_3_method_8_code 47 = .ok (.aload_n 0, 1) := by decide +kernel
theorem d169_48 : decode prog_3_method_8_code 48 = .ok (.getfield 25, 3) := by decide +kernel
theorem d169_51 : decode prog_3_method_8_code 51 = .ok (.aload_n 0, 1) := by decide +kernel
theorem d169_52 : decode prog_3_method_8_code 52 = .ok (.getfield 25, 3) := by decide +kernel
theorem d169_55 : decode prog_3_method_8_code 55 = .ok (.iload_n 2, 1) := by decide +kernel
theorem d169_56 : decode prog_3_method_8_code 56 = .ok (.invokevirtual 71, 3) := by decide +kernel
theorem d169_59 : decode prog_3_method_8_code 59 = .ok (.aload_n 0, 1) := by decide +kernel
theorem d169_60 : decode prog_3_method_8_code 60 = .ok (.getfield 9, 3) := by decide +kernel
theorem d169_63 : decode prog_3_method_8_code 63 = .ok (.iload_n 1, 1) := by decide +kernel
theorem d169_64 : decode prog_3_method_8_code 64 = .ok (.iconst 1, 1) := by decide +kernel
theorem d169_65 : decode prog_3_method_8_code 65 = .ok (.iadd, 1) := by decide +kernel
theorem d169_66 : decode prog_3_method_8_code 66 = .ok (.invokevirtual 34, 3) := by decide +kernel
theorem d169_69 : decode prog_3_method_8_code 69 = .ok (.iconst 2, 1) := by decide +kernel
theorem d169_70 : decode prog_3_method_8_code 70 = .ok (.invokevirtual 87, 3) := by decide +kernel
theorem d169_73 : decode prog_3_method_8_code 73 = .ok (.istore_n 3, 1) := by decide +kernel
theorem d169_74 : decode prog_3_method_8_code 74 = .ok (.iload_n 3, 1) := by decide +kernel
theorem d169_75 : decode prog_3_method_8_code 75 = .ok (.iconst (-1), 1) := by decide +kernel
theorem d169_76 : decode prog_3_method_8_code 76 = .ok (.if_icmp .ne 6, 3) := by decide +kernel
theorem d169_79 : decode prog_3_method_8_code 79 = .ok (.bipush 23, 2) := by decide +kernel
theorem d169_81 : decode prog_3_method_8_code 81 = .ok (.ireturn, 1) := by decide +kernel
theorem d169_82 : decode prog_3_method_8_code 82 = .ok (.aload_n 0, 1) := by decide +kernel
theorem d169_83 : decode prog_3_method_8_code 83 = .ok (.getfield 9, 3) := by decide +kernel
theorem d169_86 : decode prog_3_method_8_code 86 = .ok (.iload_n 1, 1) := by decide +kernel
theorem d169_87 : decode prog_3_method_8_code 87 = .ok (.aload_n 0, 1) := by decide +kernel
theorem d169_88 : decode prog_3_method_8_code 88 = .ok (.getfield 25, 3) := by decide +kernel
theorem d169_91 : decode prog_3_method_8_code 91 = .ok (.iload_n 3, 1) := by decide +kernel
theorem d169_92 : decode prog_3_method_8_code 92 = .ok (.invokevirtual 71, 3) := by decide +kernel
theorem d169_95 : decode prog_3_method_8_code 95 = .ok (.invokevirtual 37, 3) := by decide +kernel
theorem d169_98 : decode prog_3_method_8_code 98 = .ok (.aload_n 0, 1) := by decide +kernel
theorem d169_99 : decode prog_3_method_8_code 99 = .ok (.getfield 9, 3) := by decide +kernel
theorem d169_102 : decode prog_3_method_8_code 102 = .ok (.iload_n 1, 1) := by decide +kernel
theorem d169_103 : decode prog_3_method_8_code 103 = .ok (.aload_n 0, 1) := by decide +kernel
theorem d169_104 : decode prog_3_method_8_code 104 = .ok (.getfield 25, 3) := by decide +kernel
theorem d169_107 : decode prog_3_method_8_code 107 = .ok (.iload_n 2, 1) := by decide +kernel
theorem d169_108 : decode prog_3_method_8_code 108 = .ok (.invokevirtual 74, 3) := by decide +kernel
theorem d169_111 : decode prog_3_method_8_code 111 = .ok (.aload_n 0, 1) := by decide +kernel
theorem d169_112 : decode prog_3_method_8_code 112 = .ok (.getfield 25, 3) := by decide +kernel
theorem d169_115 : decode prog_3_method_8_code 115 = .ok (.iload_n 3, 1) := by decide +kernel
theorem d169_116 : decode prog_3_method_8_code 116 = .ok (.invokevirtual 74, 3) := by decide +kernel
theorem d169_119 : decode prog_3_method_8_code 119 = .ok (.iadd, 1) := by decide +kernel
theorem d169_120 : decode prog_3_method_8_code 120 = .ok (.invokevirtual 77, 3) := by decide +kernel
theorem d169_123 : decode prog_3_method_8_code 123 = .ok (.iconst 0, 1) := by decide +kernel
theorem d169_124 : decode prog_3_method_8_code 124 = .ok (.ireturn, 1) := by decide +kernel
theorem m169 : pm_m 169 = some (⟨"TypeRules$Expressions", "outputFault", "(I)I"⟩, prog_3_method_8_code, 4, (some FieldType.int), 8, 1, 9) := rfl
theorem d177_0 : decode prog_3_method_15_code 0 = .ok (.aload_n 0, 1) := by decide +kernel
theorem d177_1 : decode prog_3_method_15_code 1 = .ok (.getfield 9, 3) := by decide +kernel
theorem d177_4 : decode prog_3_method_15_code 4 = .ok (.iload_n 1, 1) := by decide +kernel
theorem d177_5 : decode prog_3_method_15_code 5 = .ok (.invokevirtual 34, 3) := by decide +kernel
theorem d177_8 : decode prog_3_method_15_code 8 = .ok (.istore_n 2, 1) := by decide +kernel
theorem d177_9 : decode prog_3_method_15_code 9 = .ok (.aload_n 0, 1) := by decide +kernel
theorem d177_10 : decode prog_3_method_15_code 10 = .ok (.getfield 9, 3) := by decide +kernel
theorem d177_13 : decode prog_3_method_15_code 13 = .ok (.iload_n 1, 1) := by decide +kernel
theorem d177_14 : decode prog_3_method_15_code 14 = .ok (.iconst 1, 1) := by decide +kernel
theorem d177_15 : decode prog_3_method_15_code 15 = .ok (.iadd, 1) := by decide +kernel
theorem d177_16 : decode prog_3_method_15_code 16 = .ok (.invokevirtual 80, 3) := by decide +kernel
theorem d177_19 : decode prog_3_method_15_code 19 = .ok (.istore_n 3, 1) := by decide +kernel
theorem d177_20 : decode prog_3_method_15_code 20 = .ok (.aload_n 0, 1) := by decide +kernel
theorem d177_21 : decode prog_3_method_15_code 21 = .ok (.getfield 9, 3) := by decide +kernel
theorem d177_24 : decode prog_3_method_15_code 24 = .ok (.aload_n 0, 1) := by decide +kernel
theorem d177_25 : decode prog_3_method_15_code 25 = .ok (.getfield 9, 3) := by decide +kernel
theorem d177_28 : decode prog_3_method_15_code 28 = .ok (.iload_n 1, 1) := by decide +kernel
theorem d177_29 : decode prog_3_method_15_code 29 = .ok (.iconst 1, 1) := by decide +kernel
theorem d177_30 : decode prog_3_method_15_code 30 = .ok (.iadd, 1) := by decide +kernel
theorem d177_31 : decode prog_3_method_15_code 31 = .ok (.invokevirtual 128, 3) := by decide +kernel
theorem d177_34 : decode prog_3_method_15_code 34 = .ok (.invokevirtual 80, 3) := by decide +kernel
theorem d177_37 : decode prog_3_method_15_code 37 = .ok (.istore 4, 2) := by decide +kernel
theorem d177_39 : decode prog_3_method_15_code 39 = .ok (.iload_n 2, 1) := by decide +kernel
theorem d177_40 : decode prog_3_method_15_code 40 = .ok (.iconst 4, 1) := by decide +kernel
theorem d177_41 : decode prog_3_method_15_code 41 = .ok (.if_icmp .gt 12, 3) := by decide +kernel
theorem d177_44 : decode prog_3_method_15_code 44 = .ok (.iload_n 3, 1) := by decide +kernel
theorem d177_45 : decode prog_3_method_15_code 45 = .ok (.iload 4, 2) := by decide +kernel
theorem d177_47 : decode prog_3_method_15_code 47 = .ok (.invokestatic 137, 3) := by decide +kernel
theorem d177_50 : decode prog_3_method_15_code 50 = .ok (.goto 9, 3) := by decide +kernel
theorem d177_53 : decode prog_3_method_15_code 53 = .ok (.iload_n 3, 1) := by decide +kernel
theorem d177_54 : decode prog_3_method_15_code 54 = .ok (.iload 4, 2) := by decide +kernel
theorem d177_56 : decode prog_3_method_15_code 56 = .ok (.invokestatic 134, 3) := by decide +kernel
theorem d177_59 : decode prog_3_method_15_code 59 = .ok (.istore 5, 2) := by decide +kernel
theorem d177_61 : decode prog_3_method_15_code 61 = .ok (.iload 5, 2) := by decide +kernel
theorem d177_63 : decode prog_3_method_15_code 63 = .ok (.iconst (-1), 1) := by decide +kernel
theorem d177_64 : decode prog_3_method_15_code 64 = .ok (.if_icmp .ne 6, 3) := by decide +kernel
theorem d177_67 : decode prog_3_method_15_code 67 = .ok (.bipush 27, 2) := by decide +kernel
theorem d177_69 : decode prog_3_method_15_code 69 = .ok (.ireturn, 1) := by decide +kernel
theorem d177_70 : decode prog_3_method_15_code 70 = .ok (.aload_n 0, 1) := by decide +kernel
theorem d177_71 : decode prog_3_method_15_code 71 = .ok (.getfield 9, 3) := by decide +kernel
theorem d177_74 : decode prog_3_method_15_code 74 = .ok (.iload_n 1, 1) := by decide +kernel
theorem d177_75 : decode prog_3_method_15_code 75 = .ok (.iload_n 2, 1) := by decide +kernel
theorem d177_76 : decode prog_3_method_15_code 76 = .ok (.iconst 3, 1) := by decide +kernel
theorem d177_77 : decode prog_3_method_15_code 77 = .ok (.if_icmp .lt 13, 3) := by decide +kernel
theorem d177_80 : decode prog_3_method_15_code 80 = .ok (.iload_n 2, 1) := by decide +kernel
theorem d177_81 : decode prog_3_method_15_code 81 = .ok (.bipush 8, 2) := by decide +kernel
theorem d177_83 : decode prog_3_method_15_code 83 = .ok (.if_icmp .gt 7, 3) := by decide +kernel
theorem d177_86 : decode prog_3_method_15_code 86 = .ok (.iconst 0, 1) := by decide +kernel
theorem d177_87 : decode prog_3_method_15_code 87 = .ok (.goto 5, 3) := by decide +kernel
theorem d177_90 : decode prog_3_method_15_code 90 = .ok (.iload 5, 2) := by decide +kernel
theorem d177_92 : decode prog_3_method_15_code 92 = .ok (.invokevirtual 37, 3) := by decide +kernel
theorem d177_95 : decode prog_3_method_15_code 95 = .ok (.iconst 0, 1) := by decide +kernel
theorem d177_96 : decode prog_3_method_15_code 96 = .ok (.ireturn, 1) := by decide +kernel
theorem m177 : pm_m 177 = some (⟨"TypeRules$Expressions", "twoFault", "(I)I"⟩, prog_3_method_15_code, 6, (some FieldType.int), 8, 1, 9) := rfl
theorem d178_0 : decode prog_3_method_16_code 0 = .ok (.aload_n 0, 1) := by decide +kernel
theorem d178_1 : decode prog_3_method_16_code 1 = .ok (.getfield 9, 3) := by decide +kernel
theorem d178_4 : decode prog_3_method_16_code 4 = .ok (.iload_n 1, 1) := by decide +kernel
theorem d178_5 : decode prog_3_method_16_code 5 = .ok (.iconst 1, 1) := by decide +kernel
theorem d178_6 : decode prog_3_method_16_code 6 = .ok (.iadd, 1) := by decide +kernel
theorem d178_7 : decode prog_3_method_16_code 7 = .ok (.invokevirtual 80, 3) := by decide +kernel
theorem d178_10 : decode prog_3_method_16_code 10 = .ok (.istore_n 2, 1) := by decide +kernel
theorem d178_11 : decode prog_3_method_16_code 11 = .ok (.aload_n 0, 1) := by decide +kernel
theorem d178_12 : decode prog_3_method_16_code 12 = .ok (.getfield 9, 3) := by decide +kernel
theorem d178_15 : decode prog_3_method_16_code 15 = .ok (.iload_n 1, 1) := by decide +kernel
theorem d178_16 : decode prog_3_method_16_code 16 = .ok (.invokevirtual 34, 3) := by decide +kernel
theorem d178_19 : decode prog_3_method_16_code 19 = .ok (.ifCond .ne 13, 3) := by decide +kernel
theorem d178_22 : decode prog_3_method_16_code 22 = .ok (.iload_n 2, 1) := by decide +kernel
theorem d178_23 : decode prog_3_method_16_code 23 = .ok (.invokestatic 83, 3) := by decide +kernel
theorem d178_26 : decode prog_3_method_16_code 26 = .ok (.ifCond .ne 6, 3) := by decide +kernel
theorem d178_29 : decode prog_3_method_16_code 29 = .ok (.bipush 28, 2) := by decide +kernel
theorem d178_31 : decode prog_3_method_16_code 31 = .ok (.ireturn, 1) := by decide +kernel
theorem d178_32 : decode prog_3_method_16_code 32 = .ok (.aload_n 0, 1) := by decide +kernel
theorem d178_33 : decode prog_3_method_16_code 33 = .ok (.getfield 9, 3) := by decide +kernel
theorem d178_36 : decode prog_3_method_16_code 36 = .ok (.iload_n 1, 1) := by decide +kernel
theorem d178_37 : decode prog_3_method_16_code 37 = .ok (.iload_n 2, 1) := by decide +kernel
theorem d178_38 : decode prog_3_method_16_code 38 = .ok (.invokevirtual 37, 3) := by decide +kernel
theorem d178_41 : decode prog_3_method_16_code 41 = .ok (.iconst 0, 1) := by decide +kernel
theorem d178_42 : decode prog_3_method_16_code 42 = .ok (.ireturn, 1) := by decide +kernel
theorem m178 : pm_m 178 = some (⟨"TypeRules$Expressions", "oneFault", "(I)I"⟩, prog_3_method_16_code, 3, (some FieldType.int), 8, 1, 9) := rfl
/-! EXPRESSIONS of the class -/
theorem rl_srn {A : rl_A} {x : Int32} {s : Nat} (h : rl_find (rl_cur A).2.2.2.2 x = none) : rl_srt A x s = 20 := by unfold rl_srt; rw [h]
theorem rl_srs {A : rl_A} {x : Int32} {v : rl_V} (h : rl_find (rl_cur A).2.2.2.2 x = some v) (s : Nat) : rl_srt A x s = if v.2.1 = s then 0 else 21 := by unfold rl_srt; rw [h]
theorem rl_sr0 {A : rl_A} {x : Int32} {v : rl_V} {s : Nat} (h : rl_find (rl_cur A).2.2.2.2 x = some v) (hv : v.2.1 = s) : rl_srt A x s = 0 := (rl_srs h s).trans (if_pos hv)
theorem rl_sr1 {A : rl_A} {x : Int32} {v : rl_V} {s : Nat} (h : rl_find (rl_cur A).2.2.2.2 x = some v) (hv : ¬ v.2.1 = s) : rl_srt A x s = 21 := (rl_srs h s).trans (if_neg hv)
theorem rl_vrs {A : rl_A} {x : Int32} {v : rl_V} (h : rl_find (rl_cur A).2.2.2.2 x = some v) : rl_var A x = v := by unfold rl_var; rw [h]; rfl
theorem rl_s8 {v : rl_V} {s : Nat} (hv : v.2.1 < 2 ^ 20) (hs : s < 2 ^ 20) (h : nI (8 + v.2.1) = nI (8 + s)) : v.2.1 = s := by
  have := hp_inj (by omega) (by omega) h
  omega
theorem rl_find_m {vs : List rl_V} {x : Int32} {v : rl_V} (h : rl_find vs x = some v) : v ∈ vs := List.mem_of_find?_eq_some h
theorem pv_cur {A : rl_A} (hp : pv_B A.1) (hB : A.1 ≠ []) : pv_Y A.1.tail (rl_cur A) := by
  obtain ⟨B, T⟩ := A
  cases B with
  | nil => exact absurd rfl hB
  | cons y r => exact hp.1
def rl_setl (A : rl_A) : Prop := ∀ v ∈ (rl_cur A).2.2.2.2, v.2.1 ≠ 3
theorem cr165 {d : Nat} {l : List pg_N} {NN nx : Nat} {σ0 σ : pm_S} {A : rl_A} {Q : Option Value → pm_S → Prop} {i : Nat} (h : cr_I l NN σ0 σ nx A) (hp : pv_B A.1) (hB : A.1 ≠ []) (hs : rl_setl A) (hi : i < l.length) (hx : 0 ≤ (rl_v l i).toInt ∧ (rl_v l i).toInt < NN) (hQ : ∀ σ' A', cr_I l NN σ0 σ' nx A' → ((((rl_srt A (rl_v l i) 0, rl_ce (rl_ty A i (rl_var A (rl_v l i)).2.2.1) i (nI (rl_var A (rl_v l i)).2.2.2.2.2)) : Nat × rl_A)).1 = 0 → A' = (((rl_srt A (rl_v l i) 0, rl_ce (rl_ty A i (rl_var A (rl_v l i)).2.2.1) i (nI (rl_var A (rl_v l i)).2.2.2.2.2)) : Nat × rl_A)).2) → Q (some (.int (nI (((rl_srt A (rl_v l i) 0, rl_ce (rl_ty A i (rl_var A (rl_v l i)).2.2.1) i (nI (rl_var A (rl_v l i)).2.2.2.2.2)) : Nat × rl_A)).1))) σ') : pm_call pm_Y0 (d + 2) 165 [.ref 8, .int (nI i)] σ Q := by
  dsimp only at hQ
  refine wq_m m165 (Nat.le_of_ble_eq_true rfl) (by decide) rfl ?_
  refine wq_l 1 d165_0 rfl rfl rfl rfl ?_
  refine wq_gr (ci := 8) (j := 2) (q := 6) 4 d165_1 rfl rfl rfl rfl ?_
  refine wq_l 5 d165_4 rfl rfl rfl rfl ?_
  refine wq_gr (ci := 8) (j := 1) (q := 5) 8 d165_5 rfl rfl rfl rfl ?_
  refine wq_v 11 [] d165_8 rfl rfl m116 rfl rfl (Nat.le_of_ble_eq_true rfl) rfl (cr116 h hB ?_)
  refine wq_l 12 d165_11 rfl rfl rfl rfl ?_
  refine wq_gr (ci := 8) (j := 0) (q := 3) 15 d165_12 rfl rfl rfl rfl ?_
  refine wq_l 16 d165_15 rfl rfl rfl rfl ?_
  refine wq_v 19 [_] d165_16 rfl rfl m66 rfl rfl (Nat.le_of_ble_eq_true rfl) rfl (ck66 (cr_S h) (by omega) ?_)
  refine wq_v 22 [_, _] d165_19 rfl rfl m134 rfl rfl (Nat.le_of_ble_eq_true rfl) rfl (cr134 h hB hx (fun e19 => ?_) (fun i19 o19 v19 e19 f19 => ?_))
  · -- fork 19
    refine wq_s 23 d165_22 rfl rfl (Nat.le_of_ble_eq_true rfl) rfl rfl ?_
    refine wq_l 24 d165_23 rfl rfl rfl rfl ?_
    refine wq_k 25 (-1) d165_24 (by decide) rfl ?_
    refine wq_b 31 28 d165_25 rfl (by decide) rfl (fun c25 => absurd c25 (fun z => z rfl)) (fun c25 => ?_)
    refine wq_k 30 20 d165_28 (by decide) rfl ?_
    refine wq_ri d165_30 (rfl) ?_
    rw [rl_srn e19] at hQ
    exact hQ _ _ h (fun z => absurd (show (20 : Nat) = 0 from z) (by decide))
  · -- fork 19
    have hm19 := List.mem_of_find?_eq_some e19
    have hi19 : i19 < 4128 := by have := cv_lt f19; have := (h).2.2.2.2.2.1.1; omega
    refine wq_s 23 d165_22 rfl rfl (Nat.le_of_ble_eq_true rfl) rfl rfl ?_
    refine wq_l 24 d165_23 rfl rfl rfl rfl ?_
    refine wq_k 25 (-1) d165_24 (by decide) rfl ?_
    refine wq_b 31 28 d165_25 rfl (by decide) rfl (fun c25 => ?_) (fun c25 => absurd (hp_ne (by omega)) c25)
    refine wq_l 32 d165_31 rfl rfl rfl rfl ?_
    refine wq_gr (ci := 8) (j := 2) (q := 6) 35 d165_32 rfl rfl rfl rfl ?_
    refine wq_l 36 d165_35 rfl rfl rfl rfl ?_
    refine wq_v 39 [_] d165_36 rfl rfl m135 rfl rfl (Nat.le_of_ble_eq_true rfl) rfl (cf135 (h).2.2.2.2.2.1 (f19) (hs _ hm19) ?_)
    refine wq_k 41 8 d165_39 (by decide) rfl ?_
    refine wq_b 47 44 d165_41 rfl (by decide) rfl (fun c41 => ?_) (fun c41 => ?_)
    · -- pc 47
      refine wq_l 48 d165_47 rfl rfl rfl rfl ?_
      refine wq_gr (ci := 8) (j := 0) (q := 3) 51 d165_48 rfl rfl rfl rfl ?_
      refine wq_l 52 d165_51 rfl rfl rfl rfl ?_
      refine wq_l 53 d165_52 rfl rfl rfl rfl ?_
      refine wq_gr (ci := 8) (j := 2) (q := 6) 56 d165_53 rfl rfl rfl rfl ?_
      refine wq_l 57 d165_56 rfl rfl rfl rfl ?_
      refine wq_v 60 [_] d165_57 rfl rfl m136 rfl rfl (Nat.le_of_ble_eq_true rfl) rfl (cf136 (h).2.2.2.2.2.1 (f19) (hs _ hm19) ?_)
      refine wq_v 63 [_, _] d165_60 rfl rfl m70 rfl rfl (Nat.le_of_ble_eq_true rfl) rfl (ck70 h (by omega) (fun σ60 h60 => ?_))
      refine wq_l 64 d165_63 rfl rfl rfl rfl ?_
      refine wq_gr (ci := 8) (j := 0) (q := 3) 67 d165_64 rfl rfl rfl rfl ?_
      refine wq_l 68 d165_67 rfl rfl rfl rfl ?_
      refine wq_l 69 d165_68 rfl rfl rfl rfl ?_
      refine wq_gr (ci := 8) (j := 2) (q := 6) 72 d165_69 rfl rfl rfl rfl ?_
      refine wq_l 73 d165_72 rfl rfl rfl rfl ?_
      refine wq_v 76 [_] d165_73 rfl rfl m137 rfl rfl (Nat.le_of_ble_eq_true rfl) rfl (cf137 (h60).2.2.2.2.2.1 (f19) (hs _ hm19) ?_)
      refine wq_v 79 [_, _] d165_76 rfl rfl m67 rfl rfl (Nat.le_of_ble_eq_true rfl) rfl (ck67 h60 (by omega) (fun σ76 h76 => ?_))
      refine wq_k 80 0 d165_79 (by decide) rfl ?_
      refine wq_ri d165_80 (rfl) ?_
      rw [rl_sr0 e19 (rl_s8 (s := 0) (by have := ((pv_cur hp hB).2.2.2.2.1 _ hm19).1; omega) (by decide) c41), rl_vrs e19] at hQ
      exact hQ _ _ h76 (fun _ => rfl)
    · -- pc 44
      refine wq_k 46 21 d165_44 (by decide) rfl ?_
      refine wq_ri d165_46 (rfl) ?_
      rw [rl_sr1 e19 (fun z => c41 (by rw [z]; rfl))] at hQ
      exact hQ _ _ h (fun z => absurd (show (21 : Nat) = 0 from z) (by decide))
theorem cr167 {d : Nat} {l : List pg_N} {NN nx : Nat} {σ0 σ : pm_S} {A : rl_A} {Q : Option Value → pm_S → Prop} {i : Nat} (h : cr_I l NN σ0 σ nx A) (hp : pv_B A.1) (hB : A.1 ≠ []) (hs : rl_setl A) (hi : i + 1 < l.length) (hx : 0 ≤ (rl_v l i).toInt ∧ (rl_v l i).toInt < NN) (hQ : ∀ σ' A', cr_I l NN σ0 σ' nx A' → ((((if rl_srt A (rl_v l i) 1 ≠ 0 then rl_srt A (rl_v l i) 1 else if rl_num (A.2.1 (i + 1)) = true then 0 else 22, rl_ce (rl_ty A i (rl_var A (rl_v l i)).2.2.1) i (nI (rl_var A (rl_v l i)).2.2.2.2.2)) : Nat × rl_A)).1 = 0 → A' = (((if rl_srt A (rl_v l i) 1 ≠ 0 then rl_srt A (rl_v l i) 1 else if rl_num (A.2.1 (i + 1)) = true then 0 else 22, rl_ce (rl_ty A i (rl_var A (rl_v l i)).2.2.1) i (nI (rl_var A (rl_v l i)).2.2.2.2.2)) : Nat × rl_A)).2) → Q (some (.int (nI (((if rl_srt A (rl_v l i) 1 ≠ 0 then rl_srt A (rl_v l i) 1 else if rl_num (A.2.1 (i + 1)) = true then 0 else 22, rl_ce (rl_ty A i (rl_var A (rl_v l i)).2.2.1) i (nI (rl_var A (rl_v l i)).2.2.2.2.2)) : Nat × rl_A)).1))) σ') : pm_call pm_Y0 (d + 2) 167 [.ref 8, .int (nI i)] σ Q := by
  dsimp only at hQ
  refine wq_m m167 (Nat.le_of_ble_eq_true rfl) (by decide) rfl ?_
  refine wq_l 1 d167_0 rfl rfl rfl rfl ?_
  refine wq_gr (ci := 8) (j := 2) (q := 6) 4 d167_1 rfl rfl rfl rfl ?_
  refine wq_l 5 d167_4 rfl rfl rfl rfl ?_
  refine wq_gr (ci := 8) (j := 1) (q := 5) 8 d167_5 rfl rfl rfl rfl ?_
  refine wq_v 11 [] d167_8 rfl rfl m116 rfl rfl (Nat.le_of_ble_eq_true rfl) rfl (cr116 h hB ?_)
  refine wq_l 12 d167_11 rfl rfl rfl rfl ?_
  refine wq_gr (ci := 8) (j := 0) (q := 3) 15 d167_12 rfl rfl rfl rfl ?_
  refine wq_l 16 d167_15 rfl rfl rfl rfl ?_
  refine wq_v 19 [_] d167_16 rfl rfl m66 rfl rfl (Nat.le_of_ble_eq_true rfl) rfl (ck66 (cr_S h) (by omega) ?_)
  refine wq_v 22 [_, _] d167_19 rfl rfl m134 rfl rfl (Nat.le_of_ble_eq_true rfl) rfl (cr134 h hB hx (fun e19 => ?_) (fun i19 o19 v19 e19 f19 => ?_))
  · -- fork 19
    refine wq_s 23 d167_22 rfl rfl (Nat.le_of_ble_eq_true rfl) rfl rfl ?_
    refine wq_l 24 d167_23 rfl rfl rfl rfl ?_
    refine wq_k 25 (-1) d167_24 (by decide) rfl ?_
    refine wq_b 31 28 d167_25 rfl (by decide) rfl (fun c25 => absurd c25 (fun z => z rfl)) (fun c25 => ?_)
    refine wq_k 30 20 d167_28 (by decide) rfl ?_
    refine wq_ri d167_30 (rfl) ?_
    rw [rl_srn e19, if_pos (by decide)] at hQ
    exact hQ _ _ h (fun z => absurd (show (20 : Nat) = 0 from z) (by decide))
  · -- fork 19
    have hm19 := List.mem_of_find?_eq_some e19
    have hi19 : i19 < 4128 := by have := cv_lt f19; have := (h).2.2.2.2.2.1.1; omega
    refine wq_s 23 d167_22 rfl rfl (Nat.le_of_ble_eq_true rfl) rfl rfl ?_
    refine wq_l 24 d167_23 rfl rfl rfl rfl ?_
    refine wq_k 25 (-1) d167_24 (by decide) rfl ?_
    refine wq_b 31 28 d167_25 rfl (by decide) rfl (fun c25 => ?_) (fun c25 => absurd (hp_ne (by omega)) c25)
    refine wq_l 32 d167_31 rfl rfl rfl rfl ?_
    refine wq_gr (ci := 8) (j := 2) (q := 6) 35 d167_32 rfl rfl rfl rfl ?_
    refine wq_l 36 d167_35 rfl rfl rfl rfl ?_
    refine wq_v 39 [_] d167_36 rfl rfl m135 rfl rfl (Nat.le_of_ble_eq_true rfl) rfl (cf135 (h).2.2.2.2.2.1 (f19) (hs _ hm19) ?_)
    refine wq_k 41 9 d167_39 (by decide) rfl ?_
    refine wq_b 47 44 d167_41 rfl (by decide) rfl (fun c41 => ?_) (fun c41 => ?_)
    · -- pc 47
      refine wq_l 48 d167_47 rfl rfl rfl rfl ?_
      refine wq_gr (ci := 8) (j := 0) (q := 3) 51 d167_48 rfl rfl rfl rfl ?_
      refine wq_l 52 d167_51 rfl rfl rfl rfl ?_
      refine wq_k 53 1 d167_52 (by decide) rfl ?_
      refine wq_a 54 d167_53 rfl rfl ?_
      rw [nI_1]
      refine wq_v 57 [_] d167_54 rfl rfl m71 rfl rfl (Nat.le_of_ble_eq_true rfl) rfl (ck71 h (by omega) ?_)
      refine wq_vs 60 [_] d167_57 rfl rfl m168 rfl (Nat.le_of_ble_eq_true rfl) rfl (sp168 ?_)
      refine wq_b 66 63 d167_60 rfl (by decide) rfl (fun c60 => ?_) (fun c60 => ?_)
      · -- pc 66
        have f60 := b2n c60
        refine wq_l 67 d167_66 rfl rfl rfl rfl ?_
        refine wq_gr (ci := 8) (j := 0) (q := 3) 70 d167_67 rfl rfl rfl rfl ?_
        refine wq_l 71 d167_70 rfl rfl rfl rfl ?_
        refine wq_l 72 d167_71 rfl rfl rfl rfl ?_
        refine wq_gr (ci := 8) (j := 2) (q := 6) 75 d167_72 rfl rfl rfl rfl ?_
        refine wq_l 76 d167_75 rfl rfl rfl rfl ?_
        refine wq_v 79 [_] d167_76 rfl rfl m136 rfl rfl (Nat.le_of_ble_eq_true rfl) rfl (cf136 (h).2.2.2.2.2.1 (f19) (hs _ hm19) ?_)
        refine wq_v 82 [_, _] d167_79 rfl rfl m70 rfl rfl (Nat.le_of_ble_eq_true rfl) rfl (ck70 h (by omega) (fun σ79 h79 => ?_))
        refine wq_l 83 d167_82 rfl rfl rfl rfl ?_
        refine wq_gr (ci := 8) (j := 0) (q := 3) 86 d167_83 rfl rfl rfl rfl ?_
        refine wq_l 87 d167_86 rfl rfl rfl rfl ?_
        refine wq_l 88 d167_87 rfl rfl rfl rfl ?_
        refine wq_gr (ci := 8) (j := 2) (q := 6) 91 d167_88 rfl rfl rfl rfl ?_
        refine wq_l 92 d167_91 rfl rfl rfl rfl ?_
        refine wq_v 95 [_] d167_92 rfl rfl m137 rfl rfl (Nat.le_of_ble_eq_true rfl) rfl (cf137 (h79).2.2.2.2.2.1 (f19) (hs _ hm19) ?_)
        refine wq_v 98 [_, _] d167_95 rfl rfl m67 rfl rfl (Nat.le_of_ble_eq_true rfl) rfl (ck67 h79 (by omega) (fun σ95 h95 => ?_))
        refine wq_k 99 0 d167_98 (by decide) rfl ?_
        refine wq_ri d167_99 (rfl) ?_
        rw [rl_sr0 e19 (rl_s8 (s := 1) (by have := ((pv_cur hp hB).2.2.2.2.1 _ hm19).1; omega) (by decide) c41), if_neg (by decide), if_pos f60, rl_vrs e19] at hQ
        exact hQ _ _ h95 (fun _ => rfl)
      · -- pc 63
        have f60 := b2y c60
        refine wq_k 65 22 d167_63 (by decide) rfl ?_
        refine wq_ri d167_65 (rfl) ?_
        rw [rl_sr0 e19 (rl_s8 (s := 1) (by have := ((pv_cur hp hB).2.2.2.2.1 _ hm19).1; omega) (by decide) c41), if_neg (by decide), if_neg (by rw [f60]; decide)] at hQ
        exact hQ _ _ h (fun z => absurd (show (22 : Nat) = 0 from z) (by decide))
    · -- pc 44
      refine wq_k 46 21 d167_44 (by decide) rfl ?_
      refine wq_ri d167_46 (rfl) ?_
      rw [rl_sr1 e19 (fun z => c41 (by rw [z]; rfl)), if_pos (by decide)] at hQ
      exact hQ _ _ h (fun z => absurd (show (21 : Nat) = 0 from z) (by decide))
theorem cr169 {d : Nat} {l : List pg_N} {NN nx : Nat} {σ0 σ : pm_S} {A : rl_A} {Q : Option Value → pm_S → Prop} {i : Nat} (h : cr_I l NN σ0 σ nx A) (hp : pv_B A.1) (hB : A.1 ≠ []) (hs : rl_setl A) (hi : i + 1 < l.length) (hx : 0 ≤ (rl_v l i).toInt ∧ (rl_v l i).toInt < NN) (hx2 : 0 ≤ (rl_v l (i + 1)).toInt ∧ (rl_v l (i + 1)).toInt < NN) (hQ : ∀ σ' A', cr_I l NN σ0 σ' nx A' → ((((if rl_srt A (rl_v l i) 2 ≠ 0 then (rl_srt A (rl_v l i) 2, A) else match rl_pin A.1 (rl_var A (rl_v l i)).2.2.1.toNatClampNeg (rl_v l (i + 1)) with | none => (23, A) | some (p, t, c) => if p ≠ 2 then (23, A) else (0, rl_ce (rl_ty A i t) i (nI ((rl_var A (rl_v l i)).2.2.2.2.2 + c)))) : Nat × rl_A)).1 = 0 → A' = (((if rl_srt A (rl_v l i) 2 ≠ 0 then (rl_srt A (rl_v l i) 2, A) else match rl_pin A.1 (rl_var A (rl_v l i)).2.2.1.toNatClampNeg (rl_v l (i + 1)) with | none => (23, A) | some (p, t, c) => if p ≠ 2 then (23, A) else (0, rl_ce (rl_ty A i t) i (nI ((rl_var A (rl_v l i)).2.2.2.2.2 + c)))) : Nat × rl_A)).2) → Q (some (.int (nI (((if rl_srt A (rl_v l i) 2 ≠ 0 then (rl_srt A (rl_v l i) 2, A) else match rl_pin A.1 (rl_var A (rl_v l i)).2.2.1.toNatClampNeg (rl_v l (i + 1)) with | none => (23, A) | some (p, t, c) => if p ≠ 2 then (23, A) else (0, rl_ce (rl_ty A i t) i (nI ((rl_var A (rl_v l i)).2.2.2.2.2 + c)))) : Nat × rl_A)).1))) σ') : pm_call pm_Y0 (d + 3) 169 [.ref 8, .int (nI i)] σ Q := by
  refine wq_m m169 (Nat.le_of_ble_eq_true rfl) (by decide) rfl ?_
  refine wq_l 1 d169_0 rfl rfl rfl rfl ?_
  refine wq_gr (ci := 8) (j := 2) (q := 6) 4 d169_1 rfl rfl rfl rfl ?_
  refine wq_l 5 d169_4 rfl rfl rfl rfl ?_
  refine wq_gr (ci := 8) (j := 1) (q := 5) 8 d169_5 rfl rfl rfl rfl ?_
  refine wq_v 11 [] d169_8 rfl rfl m116 rfl rfl (Nat.le_of_ble_eq_true rfl) rfl (cr116 h hB ?_)
  refine wq_l 12 d169_11 rfl rfl rfl rfl ?_
  refine wq_gr (ci := 8) (j := 0) (q := 3) 15 d169_12 rfl rfl rfl rfl ?_
  refine wq_l 16 d169_15 rfl rfl rfl rfl ?_
  refine wq_v 19 [_] d169_16 rfl rfl m66 rfl rfl (Nat.le_of_ble_eq_true rfl) rfl (ck66 (cr_S h) (by omega) ?_)
  refine wq_v 22 [_, _] d169_19 rfl rfl m134 rfl rfl (Nat.le_of_ble_eq_true rfl) rfl (cr134 h hB hx (fun e19 => ?_) (fun i19 o19 v19 e19 f19 => ?_))
  · -- fork 19
    refine wq_s 23 d169_22 rfl rfl (Nat.le_of_ble_eq_true rfl) rfl rfl ?_
    refine wq_l 24 d169_23 rfl rfl rfl rfl ?_
    refine wq_k 25 (-1) d169_24 (by decide) rfl ?_
    refine wq_b 31 28 d169_25 rfl (by decide) rfl (fun c25 => absurd c25 (fun z => z rfl)) (fun c25 => ?_)
    refine wq_k 30 20 d169_28 (by decide) rfl ?_
    refine wq_ri d169_30 (rfl) ?_
    rw [rl_srn e19, if_pos (by decide)] at hQ
    exact hQ _ _ h (fun z => absurd (show (20 : Nat) = 0 from z) (by decide))
  · -- fork 19
    have hm19 := List.mem_of_find?_eq_some e19
    have hi19 : i19 < 4128 := by have := cv_lt f19; have := (h).2.2.2.2.2.1.1; omega
    refine wq_s 23 d169_22 rfl rfl (Nat.le_of_ble_eq_true rfl) rfl rfl ?_
    refine wq_l 24 d169_23 rfl rfl rfl rfl ?_
    refine wq_k 25 (-1) d169_24 (by decide) rfl ?_
    refine wq_b 31 28 d169_25 rfl (by decide) rfl (fun c25 => ?_) (fun c25 => absurd (hp_ne (by omega)) c25)
    refine wq_l 32 d169_31 rfl rfl rfl rfl ?_
    refine wq_gr (ci := 8) (j := 2) (q := 6) 35 d169_32 rfl rfl rfl rfl ?_
    refine wq_l 36 d169_35 rfl rfl rfl rfl ?_
    refine wq_v 39 [_] d169_36 rfl rfl m135 rfl rfl (Nat.le_of_ble_eq_true rfl) rfl (cf135 (h).2.2.2.2.2.1 (f19) (hs _ hm19) ?_)
    refine wq_k 41 10 d169_39 (by decide) rfl ?_
    refine wq_b 47 44 d169_41 rfl (by decide) rfl (fun c41 => ?_) (fun c41 => ?_)
    · -- pc 47
      refine wq_l 48 d169_47 rfl rfl rfl rfl ?_
      refine wq_gr (ci := 8) (j := 2) (q := 6) 51 d169_48 rfl rfl rfl rfl ?_
      refine wq_l 52 d169_51 rfl rfl rfl rfl ?_
      refine wq_gr (ci := 8) (j := 2) (q := 6) 55 d169_52 rfl rfl rfl rfl ?_
      refine wq_l 56 d169_55 rfl rfl rfl rfl ?_
      refine wq_v 59 [_] d169_56 rfl rfl m136 rfl rfl (Nat.le_of_ble_eq_true rfl) rfl (cf136 (h).2.2.2.2.2.1 f19 (hs _ hm19) ?_)
      obtain ⟨q19, w19, w19t, w19k⟩ := ((pv_cur hp hB).2.2.2.2.1 _ hm19).2.2.2.1 (rl_s8 (s := 2) (by have := ((pv_cur hp hB).2.2.2.2.1 _ hm19).1; omega) (by decide) c41)
      have w19l : q19 < 9 + A.1.length := by rw [List.length_tail] at w19; omega
      have hl19 := h.2.2.2.2.1.1
      rw [rl_sr0 e19 (rl_s8 (s := 2) (by have := ((pv_cur hp hB).2.2.2.2.1 _ hm19).1; omega) (by decide) c41), if_neg (by decide), rl_vrs e19] at hQ
      rw [w19t, nI_clamp (by omega)] at hQ
      rw [w19t]
      refine wq_l 60 d169_59 rfl rfl rfl rfl ?_
      refine wq_gr (ci := 8) (j := 0) (q := 3) 63 d169_60 rfl rfl rfl rfl ?_
      refine wq_l 64 d169_63 rfl rfl rfl rfl ?_
      refine wq_k 65 1 d169_64 (by decide) rfl ?_
      refine wq_a 66 d169_65 rfl rfl ?_
      rw [nI_1]
      refine wq_v 69 [_] d169_66 rfl rfl m66 rfl rfl (Nat.le_of_ble_eq_true rfl) rfl (ck66 (cr_S h) (by omega) ?_)
      refine wq_k 70 2 d169_69 (by decide) rfl ?_
      refine wq_v 73 [_, _, _] d169_70 rfl rfl m138 rfl rfl (Nat.le_of_ble_eq_true rfl) rfl (cr138 h w19l (by decide) hx2 (fun e70 => ?_) (fun i70 v70 t70 c70 e70 f70 g70 k70 => ?_))
      · -- fork 70
        refine wq_s 74 d169_73 rfl rfl (Nat.le_of_ble_eq_true rfl) rfl rfl ?_
        refine wq_l 75 d169_74 rfl rfl rfl rfl ?_
        refine wq_k 76 (-1) d169_75 (by decide) rfl ?_
        refine wq_b 82 79 d169_76 rfl (by decide) rfl (fun c76 => absurd c76 (fun z => z rfl)) (fun c76 => ?_)
        refine wq_k 81 23 d169_79 (by decide) rfl ?_
        refine wq_ri d169_81 (rfl) ?_
        cases ep : rl_pin A.1 q19 (rl_v l (i + 1)) with
        | none => rw [ep] at hQ; exact hQ _ _ h (fun z => absurd (show (23 : Nat) = 0 from z) (by decide))
        | some w =>
          obtain ⟨p, t, c⟩ := w
          rw [ep] at hQ
          dsimp only at hQ
          rw [if_pos (e70 p t c ep)] at hQ
          exact hQ _ _ h (fun z => absurd (show (23 : Nat) = 0 from z) (by decide))
      · -- fork 70
        have hi70 : i70 < 4128 := by have := cv_lt f70; have := (h).2.2.2.2.2.1.1; omega
        have st70 : v70.2.1 ≠ 3 := by
          by_cases w : q19 < 9
          · rw [k70.1 w]; decide
          · obtain ⟨y, y1, y2⟩ := k70.2 (by omega)
            rw [List.length_tail] at w19
            exact pv_st hp y1 (by omega) _ (rl_find_m y2)
        refine wq_s 74 d169_73 rfl rfl (Nat.le_of_ble_eq_true rfl) rfl rfl ?_
        refine wq_l 75 d169_74 rfl rfl rfl rfl ?_
        refine wq_k 76 (-1) d169_75 (by decide) rfl ?_
        refine wq_b 82 79 d169_76 rfl (by decide) rfl (fun c76 => ?_) (fun c76 => absurd (hp_ne (by omega)) c76)
        refine wq_l 83 d169_82 rfl rfl rfl rfl ?_
        refine wq_gr (ci := 8) (j := 0) (q := 3) 86 d169_83 rfl rfl rfl rfl ?_
        refine wq_l 87 d169_86 rfl rfl rfl rfl ?_
        refine wq_l 88 d169_87 rfl rfl rfl rfl ?_
        refine wq_gr (ci := 8) (j := 2) (q := 6) 91 d169_88 rfl rfl rfl rfl ?_
        refine wq_l 92 d169_91 rfl rfl rfl rfl ?_
        refine wq_v 95 [_] d169_92 rfl rfl m136 rfl rfl (Nat.le_of_ble_eq_true rfl) rfl (cf136 (h).2.2.2.2.2.1 f70 st70 ?_)
        refine wq_v 98 [_, _] d169_95 rfl rfl m70 rfl rfl (Nat.le_of_ble_eq_true rfl) rfl (ck70 h (by omega) (fun σ95 h95 => ?_))
        refine wq_l 99 d169_98 rfl rfl rfl rfl ?_
        refine wq_gr (ci := 8) (j := 0) (q := 3) 102 d169_99 rfl rfl rfl rfl ?_
        refine wq_l 103 d169_102 rfl rfl rfl rfl ?_
        refine wq_l 104 d169_103 rfl rfl rfl rfl ?_
        refine wq_gr (ci := 8) (j := 2) (q := 6) 107 d169_104 rfl rfl rfl rfl ?_
        refine wq_l 108 d169_107 rfl rfl rfl rfl ?_
        refine wq_v 111 [_] d169_108 rfl rfl m137 rfl rfl (Nat.le_of_ble_eq_true rfl) rfl (cf137 (h95).2.2.2.2.2.1 f19 (hs _ hm19) ?_)
        refine wq_l 112 d169_111 rfl rfl rfl rfl ?_
        refine wq_gr (ci := 8) (j := 2) (q := 6) 115 d169_112 rfl rfl rfl rfl ?_
        refine wq_l 116 d169_115 rfl rfl rfl rfl ?_
        refine wq_v 119 [_] d169_116 rfl rfl m137 rfl rfl (Nat.le_of_ble_eq_true rfl) rfl (cf137 (h95).2.2.2.2.2.1 f70 st70 ?_)
        refine wq_a 120 d169_119 rfl rfl ?_
        rw [nI_add]
        refine wq_v 123 [_, _] d169_120 rfl rfl m67 rfl rfl (Nat.le_of_ble_eq_true rfl) rfl (ck67 h95 (by omega) (fun σ120 h120 => ?_))
        refine wq_k 124 0 d169_123 (by decide) rfl ?_
        refine wq_ri d169_124 (rfl) ?_
        rw [e70] at hQ
        dsimp only at hQ
        rw [if_neg (fun z => z rfl)] at hQ
        refine hQ _ _ h120 (fun _ => ?_)
        obtain ⟨_, g2, g3⟩ := g70
        rw [g2, g3]
    · -- pc 44
      refine wq_k 46 21 d169_44 (by decide) rfl ?_
      refine wq_ri d169_46 (rfl) ?_
      rw [rl_sr1 e19 (fun z => c41 (by rw [z]; rfl)), if_pos (by decide)] at hQ
      exact hQ _ _ h (fun z => absurd (show (21 : Nat) = 0 from z) (by decide))
theorem cr177 {d : Nat} {l : List pg_N} {NN nx : Nat} {σ0 σ : pm_S} {A : rl_A} {Q : Option Value → pm_S → Prop} {i : Nat} (h : cr_I l NN σ0 σ nx A) (hi : i + 1 < l.length) (hi2 : i + 1 + rl_z l (i + 1) < l.length) (hQ : ∀ σ' A', cr_I l NN σ0 σ' nx A' → ((((if (if (rl_v l i).toInt ≤ 4 then rl_com (A.2.1 (i + 1)) (A.2.1 (i + 1 + rl_z l (i + 1))) else rl_wid (A.2.1 (i + 1)) (A.2.1 (i + 1 + rl_z l (i + 1)))) = -1 then (27, A) else (0, rl_ty A i (if 3 ≤ (rl_v l i).toInt ∧ (rl_v l i).toInt ≤ 8 then 0 else (if (rl_v l i).toInt ≤ 4 then rl_com (A.2.1 (i + 1)) (A.2.1 (i + 1 + rl_z l (i + 1))) else rl_wid (A.2.1 (i + 1)) (A.2.1 (i + 1 + rl_z l (i + 1))))))) : Nat × rl_A)).1 = 0 → A' = (((if (if (rl_v l i).toInt ≤ 4 then rl_com (A.2.1 (i + 1)) (A.2.1 (i + 1 + rl_z l (i + 1))) else rl_wid (A.2.1 (i + 1)) (A.2.1 (i + 1 + rl_z l (i + 1)))) = -1 then (27, A) else (0, rl_ty A i (if 3 ≤ (rl_v l i).toInt ∧ (rl_v l i).toInt ≤ 8 then 0 else (if (rl_v l i).toInt ≤ 4 then rl_com (A.2.1 (i + 1)) (A.2.1 (i + 1 + rl_z l (i + 1))) else rl_wid (A.2.1 (i + 1)) (A.2.1 (i + 1 + rl_z l (i + 1))))))) : Nat × rl_A)).2) → Q (some (.int (nI (((if (if (rl_v l i).toInt ≤ 4 then rl_com (A.2.1 (i + 1)) (A.2.1 (i + 1 + rl_z l (i + 1))) else rl_wid (A.2.1 (i + 1)) (A.2.1 (i + 1 + rl_z l (i + 1)))) = -1 then (27, A) else (0, rl_ty A i (if 3 ≤ (rl_v l i).toInt ∧ (rl_v l i).toInt ≤ 8 then 0 else (if (rl_v l i).toInt ≤ 4 then rl_com (A.2.1 (i + 1)) (A.2.1 (i + 1 + rl_z l (i + 1))) else rl_wid (A.2.1 (i + 1)) (A.2.1 (i + 1 + rl_z l (i + 1))))))) : Nat × rl_A)).1))) σ') : pm_call pm_Y0 (d + 3) 177 [.ref 8, .int (nI i)] σ Q := by
  refine wq_m m177 (Nat.le_of_ble_eq_true rfl) (by decide) rfl ?_
  refine wq_l 1 d177_0 rfl rfl rfl rfl ?_
  refine wq_gr (ci := 8) (j := 0) (q := 3) 4 d177_1 rfl rfl rfl rfl ?_
  refine wq_l 5 d177_4 rfl rfl rfl rfl ?_
  refine wq_v 8 [_] d177_5 rfl rfl m66 rfl rfl (Nat.le_of_ble_eq_true rfl) rfl (ck66 (cr_S h) (by omega) ?_)
  refine wq_s 9 d177_8 rfl rfl (Nat.le_of_ble_eq_true rfl) rfl rfl ?_
  refine wq_l 10 d177_9 rfl rfl rfl rfl ?_
  refine wq_gr (ci := 8) (j := 0) (q := 3) 13 d177_10 rfl rfl rfl rfl ?_
  refine wq_l 14 d177_13 rfl rfl rfl rfl ?_
  refine wq_k 15 1 d177_14 (by decide) rfl ?_
  refine wq_a 16 d177_15 rfl rfl ?_
  rw [nI_1]
  refine wq_v 19 [_] d177_16 rfl rfl m71 rfl rfl (Nat.le_of_ble_eq_true rfl) rfl (ck71 h (by omega) ?_)
  refine wq_s 20 d177_19 rfl rfl (Nat.le_of_ble_eq_true rfl) rfl rfl ?_
  refine wq_l 21 d177_20 rfl rfl rfl rfl ?_
  refine wq_gr (ci := 8) (j := 0) (q := 3) 24 d177_21 rfl rfl rfl rfl ?_
  refine wq_l 25 d177_24 rfl rfl rfl rfl ?_
  refine wq_gr (ci := 8) (j := 0) (q := 3) 28 d177_25 rfl rfl rfl rfl ?_
  refine wq_l 29 d177_28 rfl rfl rfl rfl ?_
  refine wq_k 30 1 d177_29 (by decide) rfl ?_
  refine wq_a 31 d177_30 rfl rfl ?_
  rw [nI_1]
  refine wq_v 34 [_] d177_31 rfl rfl m63 rfl rfl (Nat.le_of_ble_eq_true rfl) rfl (ck63 (cr_S h) (by omega) ?_)
  refine wq_v 37 [_] d177_34 rfl rfl m71 rfl rfl (Nat.le_of_ble_eq_true rfl) rfl (ck71 h (by omega) ?_)
  refine wq_s 39 d177_37 rfl rfl (Nat.le_of_ble_eq_true rfl) rfl rfl ?_
  refine wq_l 40 d177_39 rfl rfl rfl rfl ?_
  refine wq_k 41 4 d177_40 (by decide) rfl ?_
  refine wq_b 53 44 d177_41 rfl (by decide) rfl (fun c41 => ?_) (fun c41 => ?_)
  · -- pc 53
    have c41 : ¬ (rl_v l i).toInt ≤ 4 := by rw [i_lt] at c41; have c41 : (4 : Int) < _ := c41; omega
    rw [if_neg c41] at hQ
    refine wq_l 54 d177_53 rfl rfl rfl rfl ?_
    refine wq_l 56 d177_54 rfl rfl rfl rfl ?_
    refine wq_vs 59 [_, _] d177_56 rfl rfl m175 rfl (Nat.le_of_ble_eq_true rfl) rfl (sp175 ?_)
    refine wq_s 61 d177_59 rfl rfl (Nat.le_of_ble_eq_true rfl) rfl rfl ?_
    refine wq_l 63 d177_61 rfl rfl rfl rfl ?_
    refine wq_k 64 (-1) d177_63 (by decide) rfl ?_
    refine wq_b 70 67 d177_64 rfl (by decide) rfl (fun c64 => ?_) (fun c64 => ?_)
    · -- pc 70
      refine wq_l 71 d177_70 rfl rfl rfl rfl ?_
      refine wq_gr (ci := 8) (j := 0) (q := 3) 74 d177_71 rfl rfl rfl rfl ?_
      refine wq_l 75 d177_74 rfl rfl rfl rfl ?_
      refine wq_l 76 d177_75 rfl rfl rfl rfl ?_
      refine wq_k 77 3 d177_76 (by decide) rfl ?_
      refine wq_b 90 80 d177_77 rfl (by decide) rfl (fun c77 => ?_) (fun c77 => ?_)
      · -- pc 90
        refine wq_l 92 d177_90 rfl rfl rfl rfl ?_
        refine wq_v 95 [_, _] d177_92 rfl rfl m70 rfl rfl (Nat.le_of_ble_eq_true rfl) rfl (ck70 h (by omega) (fun σ92 h92 => ?_))
        refine wq_k 96 0 d177_95 (by decide) rfl ?_
        refine wq_ri d177_96 (rfl) ?_
        rw [if_neg c64] at hQ
        refine hQ _ _ h92 (fun _ => ?_)
        first | (exfalso; simp only [i_lt, Int32.reduceToInt] at c77 c83; omega) | (exfalso; simp only [i_lt, Int32.reduceToInt] at c77; omega) | rw [if_pos (by simp only [i_lt, Int32.reduceToInt] at c77 c83; omega)] | rw [if_neg (by simp only [i_lt, Int32.reduceToInt] at c77; omega)] | rw [if_neg (by simp only [i_lt, Int32.reduceToInt] at c77 c83; omega)]
      · -- pc 80
        refine wq_l 81 d177_80 rfl rfl rfl rfl ?_
        refine wq_k 83 8 d177_81 (by decide) rfl ?_
        refine wq_b 90 86 d177_83 rfl (by decide) rfl (fun c83 => ?_) (fun c83 => ?_)
        · -- pc 90
          refine wq_l 92 d177_90 rfl rfl rfl rfl ?_
          refine wq_v 95 [_, _] d177_92 rfl rfl m70 rfl rfl (Nat.le_of_ble_eq_true rfl) rfl (ck70 h (by omega) (fun σ92 h92 => ?_))
          refine wq_k 96 0 d177_95 (by decide) rfl ?_
          refine wq_ri d177_96 (rfl) ?_
          rw [if_neg c64] at hQ
          refine hQ _ _ h92 (fun _ => ?_)
          first | (exfalso; simp only [i_lt, Int32.reduceToInt] at c77 c83; omega) | (exfalso; simp only [i_lt, Int32.reduceToInt] at c77; omega) | rw [if_pos (by simp only [i_lt, Int32.reduceToInt] at c77 c83; omega)] | rw [if_neg (by simp only [i_lt, Int32.reduceToInt] at c77; omega)] | rw [if_neg (by simp only [i_lt, Int32.reduceToInt] at c77 c83; omega)]
        · -- pc 86
          refine wq_k 87 0 d177_86 (by decide) rfl ?_
          refine wq_g 92 d177_87 (by decide) ?_
          refine wq_v 95 [_, _] d177_92 rfl rfl m70 rfl rfl (Nat.le_of_ble_eq_true rfl) rfl (ck70 h (by omega) (fun σ92 h92 => ?_))
          refine wq_k 96 0 d177_95 (by decide) rfl ?_
          refine wq_ri d177_96 (rfl) ?_
          rw [if_neg c64] at hQ
          refine hQ _ _ h92 (fun _ => ?_)
          first | (exfalso; simp only [i_lt, Int32.reduceToInt] at c77 c83; omega) | (exfalso; simp only [i_lt, Int32.reduceToInt] at c77; omega) | rw [if_pos (by simp only [i_lt, Int32.reduceToInt] at c77 c83; omega)] | rw [if_neg (by simp only [i_lt, Int32.reduceToInt] at c77; omega)] | rw [if_neg (by simp only [i_lt, Int32.reduceToInt] at c77 c83; omega)]
    · -- pc 67
      refine wq_k 69 27 d177_67 (by decide) rfl ?_
      refine wq_ri d177_69 (rfl) ?_
      rw [if_pos (Classical.not_not.mp c64)] at hQ
      exact hQ _ _ h (fun z => absurd (show (27 : Nat) = 0 from z) (by decide))
  · -- pc 44
    have c41 : (rl_v l i).toInt ≤ 4 := by rw [i_lt] at c41; have c41 : ¬ (4 : Int) < _ := c41; omega
    rw [if_pos c41] at hQ
    refine wq_l 45 d177_44 rfl rfl rfl rfl ?_
    refine wq_l 47 d177_45 rfl rfl rfl rfl ?_
    refine wq_vs 50 [_, _] d177_47 rfl rfl m176 rfl (Nat.le_of_ble_eq_true rfl) rfl (sp176 ?_)
    refine wq_g 59 d177_50 (by decide) ?_
    refine wq_s 61 d177_59 rfl rfl (Nat.le_of_ble_eq_true rfl) rfl rfl ?_
    refine wq_l 63 d177_61 rfl rfl rfl rfl ?_
    refine wq_k 64 (-1) d177_63 (by decide) rfl ?_
    refine wq_b 70 67 d177_64 rfl (by decide) rfl (fun c64 => ?_) (fun c64 => ?_)
    · -- pc 70
      refine wq_l 71 d177_70 rfl rfl rfl rfl ?_
      refine wq_gr (ci := 8) (j := 0) (q := 3) 74 d177_71 rfl rfl rfl rfl ?_
      refine wq_l 75 d177_74 rfl rfl rfl rfl ?_
      refine wq_l 76 d177_75 rfl rfl rfl rfl ?_
      refine wq_k 77 3 d177_76 (by decide) rfl ?_
      refine wq_b 90 80 d177_77 rfl (by decide) rfl (fun c77 => ?_) (fun c77 => ?_)
      · -- pc 90
        refine wq_l 92 d177_90 rfl rfl rfl rfl ?_
        refine wq_v 95 [_, _] d177_92 rfl rfl m70 rfl rfl (Nat.le_of_ble_eq_true rfl) rfl (ck70 h (by omega) (fun σ92 h92 => ?_))
        refine wq_k 96 0 d177_95 (by decide) rfl ?_
        refine wq_ri d177_96 (rfl) ?_
        rw [if_neg c64] at hQ
        refine hQ _ _ h92 (fun _ => ?_)
        first | (exfalso; simp only [i_lt, Int32.reduceToInt] at c77 c83; omega) | (exfalso; simp only [i_lt, Int32.reduceToInt] at c77; omega) | rw [if_pos (by simp only [i_lt, Int32.reduceToInt] at c77 c83; omega)] | rw [if_neg (by simp only [i_lt, Int32.reduceToInt] at c77; omega)] | rw [if_neg (by simp only [i_lt, Int32.reduceToInt] at c77 c83; omega)]
      · -- pc 80
        refine wq_l 81 d177_80 rfl rfl rfl rfl ?_
        refine wq_k 83 8 d177_81 (by decide) rfl ?_
        refine wq_b 90 86 d177_83 rfl (by decide) rfl (fun c83 => ?_) (fun c83 => ?_)
        · -- pc 90
          refine wq_l 92 d177_90 rfl rfl rfl rfl ?_
          refine wq_v 95 [_, _] d177_92 rfl rfl m70 rfl rfl (Nat.le_of_ble_eq_true rfl) rfl (ck70 h (by omega) (fun σ92 h92 => ?_))
          refine wq_k 96 0 d177_95 (by decide) rfl ?_
          refine wq_ri d177_96 (rfl) ?_
          rw [if_neg c64] at hQ
          refine hQ _ _ h92 (fun _ => ?_)
          first | (exfalso; simp only [i_lt, Int32.reduceToInt] at c77 c83; omega) | (exfalso; simp only [i_lt, Int32.reduceToInt] at c77; omega) | rw [if_pos (by simp only [i_lt, Int32.reduceToInt] at c77 c83; omega)] | rw [if_neg (by simp only [i_lt, Int32.reduceToInt] at c77; omega)] | rw [if_neg (by simp only [i_lt, Int32.reduceToInt] at c77 c83; omega)]
        · -- pc 86
          refine wq_k 87 0 d177_86 (by decide) rfl ?_
          refine wq_g 92 d177_87 (by decide) ?_
          refine wq_v 95 [_, _] d177_92 rfl rfl m70 rfl rfl (Nat.le_of_ble_eq_true rfl) rfl (ck70 h (by omega) (fun σ92 h92 => ?_))
          refine wq_k 96 0 d177_95 (by decide) rfl ?_
          refine wq_ri d177_96 (rfl) ?_
          rw [if_neg c64] at hQ
          refine hQ _ _ h92 (fun _ => ?_)
          first | (exfalso; simp only [i_lt, Int32.reduceToInt] at c77 c83; omega) | (exfalso; simp only [i_lt, Int32.reduceToInt] at c77; omega) | rw [if_pos (by simp only [i_lt, Int32.reduceToInt] at c77 c83; omega)] | rw [if_neg (by simp only [i_lt, Int32.reduceToInt] at c77; omega)] | rw [if_neg (by simp only [i_lt, Int32.reduceToInt] at c77 c83; omega)]
    · -- pc 67
      refine wq_k 69 27 d177_67 (by decide) rfl ?_
      refine wq_ri d177_69 (rfl) ?_
      rw [if_pos (Classical.not_not.mp c64)] at hQ
      exact hQ _ _ h (fun z => absurd (show (27 : Nat) = 0 from z) (by decide))
theorem cr178 {d : Nat} {l : List pg_N} {NN nx : Nat} {σ0 σ : pm_S} {A : rl_A} {Q : Option Value → pm_S → Prop} {i : Nat} (h : cr_I l NN σ0 σ nx A) (hi : i + 1 < l.length) (hQ : ∀ σ' A', cr_I l NN σ0 σ' nx A' → ((((if rl_v l i = 0 ∧ rl_num (A.2.1 (i + 1)) = false then 28 else 0, rl_ty A i (A.2.1 (i + 1))) : Nat × rl_A)).1 = 0 → A' = (((if rl_v l i = 0 ∧ rl_num (A.2.1 (i + 1)) = false then 28 else 0, rl_ty A i (A.2.1 (i + 1))) : Nat × rl_A)).2) → Q (some (.int (nI (((if rl_v l i = 0 ∧ rl_num (A.2.1 (i + 1)) = false then 28 else 0, rl_ty A i (A.2.1 (i + 1))) : Nat × rl_A)).1))) σ') : pm_call pm_Y0 (d + 2) 178 [.ref 8, .int (nI i)] σ Q := by
  dsimp only at hQ
  refine wq_m m178 (Nat.le_of_ble_eq_true rfl) (by decide) rfl ?_
  refine wq_l 1 d178_0 rfl rfl rfl rfl ?_
  refine wq_gr (ci := 8) (j := 0) (q := 3) 4 d178_1 rfl rfl rfl rfl ?_
  refine wq_l 5 d178_4 rfl rfl rfl rfl ?_
  refine wq_k 6 1 d178_5 (by decide) rfl ?_
  refine wq_a 7 d178_6 rfl rfl ?_
  rw [nI_1]
  refine wq_v 10 [_] d178_7 rfl rfl m71 rfl rfl (Nat.le_of_ble_eq_true rfl) rfl (ck71 h (by omega) ?_)
  refine wq_s 11 d178_10 rfl rfl (Nat.le_of_ble_eq_true rfl) rfl rfl ?_
  refine wq_l 12 d178_11 rfl rfl rfl rfl ?_
  refine wq_gr (ci := 8) (j := 0) (q := 3) 15 d178_12 rfl rfl rfl rfl ?_
  refine wq_l 16 d178_15 rfl rfl rfl rfl ?_
  refine wq_v 19 [_] d178_16 rfl rfl m66 rfl rfl (Nat.le_of_ble_eq_true rfl) rfl (ck66 (cr_S h) (by omega) ?_)
  refine wq_b 32 22 d178_19 rfl (by decide) rfl (fun c19 => ?_) (fun c19 => ?_)
  · -- pc 32
    refine wq_l 33 d178_32 rfl rfl rfl rfl ?_
    refine wq_gr (ci := 8) (j := 0) (q := 3) 36 d178_33 rfl rfl rfl rfl ?_
    refine wq_l 37 d178_36 rfl rfl rfl rfl ?_
    refine wq_l 38 d178_37 rfl rfl rfl rfl ?_
    refine wq_v 41 [_, _] d178_38 rfl rfl m70 rfl rfl (Nat.le_of_ble_eq_true rfl) rfl (ck70 h (by omega) (fun σ38 h38 => ?_))
    refine wq_k 42 0 d178_41 (by decide) rfl ?_
    refine wq_ri d178_42 (rfl) ?_
    rw [if_neg (fun z => c19 z.1)] at hQ; exact hQ _ _ h38 (fun _ => rfl)
  · -- pc 22
    refine wq_l 23 d178_22 rfl rfl rfl rfl ?_
    refine wq_vs 26 [_] d178_23 rfl rfl m168 rfl (Nat.le_of_ble_eq_true rfl) rfl (sp168 ?_)
    refine wq_b 32 29 d178_26 rfl (by decide) rfl (fun c26 => ?_) (fun c26 => ?_)
    · -- pc 32
      have f26 := b2n c26
      refine wq_l 33 d178_32 rfl rfl rfl rfl ?_
      refine wq_gr (ci := 8) (j := 0) (q := 3) 36 d178_33 rfl rfl rfl rfl ?_
      refine wq_l 37 d178_36 rfl rfl rfl rfl ?_
      refine wq_l 38 d178_37 rfl rfl rfl rfl ?_
      refine wq_v 41 [_, _] d178_38 rfl rfl m70 rfl rfl (Nat.le_of_ble_eq_true rfl) rfl (ck70 h (by omega) (fun σ38 h38 => ?_))
      refine wq_k 42 0 d178_41 (by decide) rfl ?_
      refine wq_ri d178_42 (rfl) ?_
      rw [if_neg (fun z => absurd (f26.symm.trans z.2) (by decide))] at hQ; exact hQ _ _ h38 (fun _ => rfl)
    · -- pc 29
      have f26 := b2y c26
      refine wq_k 31 28 d178_29 (by decide) rfl ?_
      refine wq_ri d178_31 (rfl) ?_
      rw [if_pos ⟨Classical.not_not.mp c19, f26⟩] at hQ
      exact hQ _ _ h (fun z => absurd (show (28 : Nat) = 0 from z) (by decide))
