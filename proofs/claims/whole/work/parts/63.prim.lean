theorem d56_0 : decode prog_10_method_2_code 0 = .ok (.aload_n 0, 1) := by decide +kernel
theorem d56_1 : decode prog_10_method_2_code 1 = .ok (.iconst 0, 1) := by decide +kernel
theorem d56_2 : decode prog_10_method_2_code 2 = .ok (.putfield 36, 3) := by decide +kernel
theorem d56_5 : decode prog_10_method_2_code 5 = .ok (.return_, 1) := by decide +kernel
theorem m56 : pm_m 56 = some (⟨"TypeRules$Tree", "reset", "()V"⟩, prog_10_method_2_code, 1, none, 3, 0, 4) := rfl
theorem d57_0 : decode prog_10_method_4_code 0 = .ok (.aload_n 0, 1) := by decide +kernel
theorem d57_1 : decode prog_10_method_4_code 1 = .ok (.getfield 36, 3) := by decide +kernel
theorem d57_4 : decode prog_10_method_4_code 4 = .ok (.sipush 16386, 3) := by decide +kernel
theorem d57_7 : decode prog_10_method_4_code 7 = .ok (.if_icmp .lt 5, 3) := by decide +kernel
theorem d57_10 : decode prog_10_method_4_code 10 = .ok (.iconst (-1), 1) := by decide +kernel
theorem d57_11 : decode prog_10_method_4_code 11 = .ok (.ireturn, 1) := by decide +kernel
theorem d57_12 : decode prog_10_method_4_code 12 = .ok (.aload_n 0, 1) := by decide +kernel
theorem d57_13 : decode prog_10_method_4_code 13 = .ok (.getfield 9, 3) := by decide +kernel
theorem d57_16 : decode prog_10_method_4_code 16 = .ok (.aload_n 0, 1) := by decide +kernel
theorem d57_17 : decode prog_10_method_4_code 17 = .ok (.getfield 36, 3) := by decide +kernel
theorem d57_20 : decode prog_10_method_4_code 20 = .ok (.iload_n 1, 1) := by decide +kernel
theorem d57_21 : decode prog_10_method_4_code 21 = .ok (.iastore, 1) := by decide +kernel
theorem d57_22 : decode prog_10_method_4_code 22 = .ok (.aload_n 0, 1) := by decide +kernel
theorem d57_23 : decode prog_10_method_4_code 23 = .ok (.getfield 15, 3) := by decide +kernel
theorem d57_26 : decode prog_10_method_4_code 26 = .ok (.aload_n 0, 1) := by decide +kernel
theorem d57_27 : decode prog_10_method_4_code 27 = .ok (.getfield 36, 3) := by decide +kernel
theorem d57_30 : decode prog_10_method_4_code 30 = .ok (.iload_n 2, 1) := by decide +kernel
theorem d57_31 : decode prog_10_method_4_code 31 = .ok (.iastore, 1) := by decide +kernel
theorem d57_32 : decode prog_10_method_4_code 32 = .ok (.aload_n 0, 1) := by decide +kernel
theorem d57_33 : decode prog_10_method_4_code 33 = .ok (.getfield 18, 3) := by decide +kernel
theorem d57_36 : decode prog_10_method_4_code 36 = .ok (.aload_n 0, 1) := by decide +kernel
theorem d57_37 : decode prog_10_method_4_code 37 = .ok (.getfield 36, 3) := by decide +kernel
theorem d57_40 : decode prog_10_method_4_code 40 = .ok (.iload_n 3, 1) := by decide +kernel
theorem d57_41 : decode prog_10_method_4_code 41 = .ok (.iastore, 1) := by decide +kernel
theorem d57_42 : decode prog_10_method_4_code 42 = .ok (.aload_n 0, 1) := by decide +kernel
theorem d57_43 : decode prog_10_method_4_code 43 = .ok (.getfield 21, 3) := by decide +kernel
theorem d57_46 : decode prog_10_method_4_code 46 = .ok (.aload_n 0, 1) := by decide +kernel
theorem d57_47 : decode prog_10_method_4_code 47 = .ok (.getfield 36, 3) := by decide +kernel
theorem d57_50 : decode prog_10_method_4_code 50 = .ok (.iconst 1, 1) := by decide +kernel
theorem d57_51 : decode prog_10_method_4_code 51 = .ok (.iastore, 1) := by decide +kernel
theorem d57_52 : decode prog_10_method_4_code 52 = .ok (.aload_n 0, 1) := by decide +kernel
theorem d57_53 : decode prog_10_method_4_code 53 = .ok (.getfield 24, 3) := by decide +kernel
theorem d57_56 : decode prog_10_method_4_code 56 = .ok (.aload_n 0, 1) := by decide +kernel
theorem d57_57 : decode prog_10_method_4_code 57 = .ok (.getfield 36, 3) := by decide +kernel
theorem d57_60 : decode prog_10_method_4_code 60 = .ok (.iconst (-1), 1) := by decide +kernel
theorem d57_61 : decode prog_10_method_4_code 61 = .ok (.iastore, 1) := by decide +kernel
theorem d57_62 : decode prog_10_method_4_code 62 = .ok (.aload_n 0, 1) := by decide +kernel
theorem d57_63 : decode prog_10_method_4_code 63 = .ok (.getfield 27, 3) := by decide +kernel
theorem d57_66 : decode prog_10_method_4_code 66 = .ok (.aload_n 0, 1) := by decide +kernel
theorem d57_67 : decode prog_10_method_4_code 67 = .ok (.getfield 36, 3) := by decide +kernel
theorem d57_70 : decode prog_10_method_4_code 70 = .ok (.iconst (-1), 1) := by decide +kernel
theorem d57_71 : decode prog_10_method_4_code 71 = .ok (.iastore, 1) := by decide +kernel
theorem d57_72 : decode prog_10_method_4_code 72 = .ok (.aload_n 0, 1) := by decide +kernel
theorem d57_73 : decode prog_10_method_4_code 73 = .ok (.getfield 30, 3) := by decide +kernel
theorem d57_76 : decode prog_10_method_4_code 76 = .ok (.aload_n 0, 1) := by decide +kernel
theorem d57_77 : decode prog_10_method_4_code 77 = .ok (.getfield 36, 3) := by decide +kernel
theorem d57_80 : decode prog_10_method_4_code 80 = .ok (.iconst (-1), 1) := by decide +kernel
theorem d57_81 : decode prog_10_method_4_code 81 = .ok (.iastore, 1) := by decide +kernel
theorem d57_82 : decode prog_10_method_4_code 82 = .ok (.aload_n 0, 1) := by decide +kernel
theorem d57_83 : decode prog_10_method_4_code 83 = .ok (.getfield 33, 3) := by decide +kernel
theorem d57_86 : decode prog_10_method_4_code 86 = .ok (.aload_n 0, 1) := by decide +kernel
theorem d57_87 : decode prog_10_method_4_code 87 = .ok (.getfield 36, 3) := by decide +kernel
theorem d57_90 : decode prog_10_method_4_code 90 = .ok (.iconst (-1), 1) := by decide +kernel
theorem d57_91 : decode prog_10_method_4_code 91 = .ok (.iastore, 1) := by decide +kernel
theorem d57_92 : decode prog_10_method_4_code 92 = .ok (.aload_n 0, 1) := by decide +kernel
theorem d57_93 : decode prog_10_method_4_code 93 = .ok (.dup, 1) := by decide +kernel
theorem d57_94 : decode prog_10_method_4_code 94 = .ok (.getfield 36, 3) := by decide +kernel
theorem d57_97 : decode prog_10_method_4_code 97 = .ok (.iconst 1, 1) := by decide +kernel
theorem d57_98 : decode prog_10_method_4_code 98 = .ok (.iadd, 1) := by decide +kernel
theorem d57_99 : decode prog_10_method_4_code 99 = .ok (.putfield 36, 3) := by decide +kernel
theorem d57_102 : decode prog_10_method_4_code 102 = .ok (.aload_n 0, 1) := by decide +kernel
theorem d57_103 : decode prog_10_method_4_code 103 = .ok (.getfield 36, 3) := by decide +kernel
theorem d57_106 : decode prog_10_method_4_code 106 = .ok (.iconst 1, 1) := by decide +kernel
theorem d57_107 : decode prog_10_method_4_code 107 = .ok (.isub, 1) := by decide +kernel
theorem d57_108 : decode prog_10_method_4_code 108 = .ok (.ireturn, 1) := by decide +kernel
theorem m57 : pm_m 57 = some (⟨"TypeRules$Tree", "add", "(III)I"⟩, prog_10_method_4_code, 4, (some FieldType.int), 3, 3, 4) := rfl
theorem d58_0 : decode prog_10_method_16_code 0 = .ok (.iload_n 1, 1) := by decide +kernel
theorem d58_1 : decode prog_10_method_16_code 1 = .ok (.ifCond .lt 18, 3) := by decide +kernel
theorem d58_4 : decode prog_10_method_16_code 4 = .ok (.iload_n 1, 1) := by decide +kernel
theorem d58_5 : decode prog_10_method_16_code 5 = .ok (.aload_n 0, 1) := by decide +kernel
theorem d58_6 : decode prog_10_method_16_code 6 = .ok (.getfield 36, 3) := by decide +kernel
theorem d58_9 : decode prog_10_method_16_code 9 = .ok (.if_icmp .ge 10, 3) := by decide +kernel
theorem d58_12 : decode prog_10_method_16_code 12 = .ok (.aload_n 0, 1) := by decide +kernel
theorem d58_13 : decode prog_10_method_16_code 13 = .ok (.getfield 18, 3) := by decide +kernel
theorem d58_16 : decode prog_10_method_16_code 16 = .ok (.iload_n 1, 1) := by decide +kernel
theorem d58_17 : decode prog_10_method_16_code 17 = .ok (.iload_n 2, 1) := by decide +kernel
theorem d58_18 : decode prog_10_method_16_code 18 = .ok (.iastore, 1) := by decide +kernel
theorem d58_19 : decode prog_10_method_16_code 19 = .ok (.return_, 1) := by decide +kernel
theorem m58 : pm_m 58 = some (⟨"TypeRules$Tree", "setValue", "(II)V"⟩, prog_10_method_16_code, 3, none, 3, 2, 4) := rfl
theorem d59_0 : decode prog_10_method_6_code 0 = .ok (.iload_n 1, 1) := by decide +kernel
theorem d59_1 : decode prog_10_method_6_code 1 = .ok (.ifCond .lt 23, 3) := by decide +kernel
theorem d59_4 : decode prog_10_method_6_code 4 = .ok (.iload_n 1, 1) := by decide +kernel
theorem d59_5 : decode prog_10_method_6_code 5 = .ok (.aload_n 0, 1) := by decide +kernel
theorem d59_6 : decode prog_10_method_6_code 6 = .ok (.getfield 36, 3) := by decide +kernel
theorem d59_9 : decode prog_10_method_6_code 9 = .ok (.if_icmp .ge 15, 3) := by decide +kernel
theorem d59_12 : decode prog_10_method_6_code 12 = .ok (.aload_n 0, 1) := by decide +kernel
theorem d59_13 : decode prog_10_method_6_code 13 = .ok (.getfield 21, 3) := by decide +kernel
theorem d59_16 : decode prog_10_method_6_code 16 = .ok (.iload_n 1, 1) := by decide +kernel
theorem d59_17 : decode prog_10_method_6_code 17 = .ok (.aload_n 0, 1) := by decide +kernel
theorem d59_18 : decode prog_10_method_6_code 18 = .ok (.getfield 36, 3) := by decide +kernel
theorem d59_21 : decode prog_10_method_6_code 21 = .ok (.iload_n 1, 1) := by decide +kernel
theorem d59_22 : decode prog_10_method_6_code 22 = .ok (.isub, 1) := by decide +kernel
theorem d59_23 : decode prog_10_method_6_code 23 = .ok (.iastore, 1) := by decide +kernel
theorem d59_24 : decode prog_10_method_6_code 24 = .ok (.return_, 1) := by decide +kernel
theorem m59 : pm_m 59 = some (⟨"TypeRules$Tree", "close", "(I)V"⟩, prog_10_method_6_code, 2, none, 3, 1, 4) := rfl
theorem d60_0 : decode prog_10_method_3_code 0 = .ok (.aload_n 0, 1) := by decide +kernel
theorem d60_1 : decode prog_10_method_3_code 1 = .ok (.getfield 36, 3) := by decide +kernel
theorem d60_4 : decode prog_10_method_3_code 4 = .ok (.ireturn, 1) := by decide +kernel
theorem m60 : pm_m 60 = some (⟨"TypeRules$Tree", "size", "()I"⟩, prog_10_method_3_code, 1, (some FieldType.int), 3, 0, 4) := rfl
theorem d61_0 : decode prog_10_method_5_code 0 = .ok (.aload_n 0, 1) := by decide +kernel
theorem d61_1 : decode prog_10_method_5_code 1 = .ok (.getfield 36, 3) := by decide +kernel
theorem d61_4 : decode prog_10_method_5_code 4 = .ok (.iload_n 1, 1) := by decide +kernel
theorem d61_5 : decode prog_10_method_5_code 5 = .ok (.isub, 1) := by decide +kernel
theorem d61_6 : decode prog_10_method_5_code 6 = .ok (.istore 5, 2) := by decide +kernel
theorem d61_8 : decode prog_10_method_5_code 8 = .ok (.aload_n 0, 1) := by decide +kernel
theorem d61_9 : decode prog_10_method_5_code 9 = .ok (.iload_n 2, 1) := by decide +kernel
theorem d61_10 : decode prog_10_method_5_code 10 = .ok (.iload_n 3, 1) := by decide +kernel
theorem d61_11 : decode prog_10_method_5_code 11 = .ok (.iload 4, 2) := by decide +kernel
theorem d61_13 : decode prog_10_method_5_code 13 = .ok (.invokevirtual 40, 3) := by decide +kernel
theorem d61_16 : decode prog_10_method_5_code 16 = .ok (.iconst (-1), 1) := by decide +kernel
theorem d61_17 : decode prog_10_method_5_code 17 = .ok (.if_icmp .eq 12, 3) := by decide +kernel
theorem d61_20 : decode prog_10_method_5_code 20 = .ok (.iload_n 1, 1) := by decide +kernel
theorem d61_21 : decode prog_10_method_5_code 21 = .ok (.ifCond .lt 8, 3) := by decide +kernel
theorem d61_24 : decode prog_10_method_5_code 24 = .ok (.iload 5, 2) := by decide +kernel
theorem d61_26 : decode prog_10_method_5_code 26 = .ok (.ifCond .gt 4, 3) := by decide +kernel
theorem d61_29 : decode prog_10_method_5_code 29 = .ok (.return_, 1) := by decide +kernel
theorem d61_30 : decode prog_10_method_5_code 30 = .ok (.aload_n 0, 1) := by decide +kernel
theorem d61_31 : decode prog_10_method_5_code 31 = .ok (.getfield 9, 3) := by decide +kernel
theorem d61_34 : decode prog_10_method_5_code 34 = .ok (.iload_n 1, 1) := by decide +kernel
theorem d61_35 : decode prog_10_method_5_code 35 = .ok (.aload_n 0, 1) := by decide +kernel
theorem d61_36 : decode prog_10_method_5_code 36 = .ok (.getfield 9, 3) := by decide +kernel
theorem d61_39 : decode prog_10_method_5_code 39 = .ok (.iload_n 1, 1) := by decide +kernel
theorem d61_40 : decode prog_10_method_5_code 40 = .ok (.iconst 1, 1) := by decide +kernel
theorem d61_41 : decode prog_10_method_5_code 41 = .ok (.iadd, 1) := by decide +kernel
theorem d61_42 : decode prog_10_method_5_code 42 = .ok (.iload 5, 2) := by decide +kernel
theorem d61_44 : decode prog_10_method_5_code 44 = .ok (.invokestatic 44, 3) := by decide +kernel
theorem d61_47 : decode prog_10_method_5_code 47 = .ok (.aload_n 0, 1) := by decide +kernel
theorem d61_48 : decode prog_10_method_5_code 48 = .ok (.getfield 15, 3) := by decide +kernel
theorem d61_51 : decode prog_10_method_5_code 51 = .ok (.iload_n 1, 1) := by decide +kernel
theorem d61_52 : decode prog_10_method_5_code 52 = .ok (.aload_n 0, 1) := by decide +kernel
theorem d61_53 : decode prog_10_method_5_code 53 = .ok (.getfield 15, 3) := by decide +kernel
theorem d61_56 : decode prog_10_method_5_code 56 = .ok (.iload_n 1, 1) := by decide +kernel
theorem d61_57 : decode prog_10_method_5_code 57 = .ok (.iconst 1, 1) := by decide +kernel
theorem d61_58 : decode prog_10_method_5_code 58 = .ok (.iadd, 1) := by decide +kernel
theorem d61_59 : decode prog_10_method_5_code 59 = .ok (.iload 5, 2) := by decide +kernel
theorem d61_61 : decode prog_10_method_5_code 61 = .ok (.invokestatic 44, 3) := by decide +kernel
theorem d61_64 : decode prog_10_method_5_code 64 = .ok (.aload_n 0, 1) := by decide +kernel
theorem d61_65 : decode prog_10_method_5_code 65 = .ok (.getfield 18, 3) := by decide +kernel
theorem d61_68 : decode prog_10_method_5_code 68 = .ok (.iload_n 1, 1) := by decide +kernel
theorem d61_69 : decode prog_10_method_5_code 69 = .ok (.aload_n 0, 1) := by decide +kernel
theorem d61_70 : decode prog_10_method_5_code 70 = .ok (.getfield 18, 3) := by decide +kernel
theorem d61_73 : decode prog_10_method_5_code 73 = .ok (.iload_n 1, 1) := by decide +kernel
theorem d61_74 : decode prog_10_method_5_code 74 = .ok (.iconst 1, 1) := by decide +kernel
theorem d61_75 : decode prog_10_method_5_code 75 = .ok (.iadd, 1) := by decide +kernel
theorem d61_76 : decode prog_10_method_5_code 76 = .ok (.iload 5, 2) := by decide +kernel
theorem d61_78 : decode prog_10_method_5_code 78 = .ok (.invokestatic 44, 3) := by decide +kernel
theorem d61_81 : decode prog_10_method_5_code 81 = .ok (.aload_n 0, 1) := by decide +kernel
theorem d61_82 : decode prog_10_method_5_code 82 = .ok (.getfield 21, 3) := by decide +kernel
theorem d61_85 : decode prog_10_method_5_code 85 = .ok (.iload_n 1, 1) := by decide +kernel
theorem d61_86 : decode prog_10_method_5_code 86 = .ok (.aload_n 0, 1) := by decide +kernel
theorem d61_87 : decode prog_10_method_5_code 87 = .ok (.getfield 21, 3) := by decide +kernel
theorem d61_90 : decode prog_10_method_5_code 90 = .ok (.iload_n 1, 1) := by decide +kernel
theorem d61_91 : decode prog_10_method_5_code 91 = .ok (.iconst 1, 1) := by decide +kernel
theorem d61_92 : decode prog_10_method_5_code 92 = .ok (.iadd, 1) := by decide +kernel
theorem d61_93 : decode prog_10_method_5_code 93 = .ok (.iload 5, 2) := by decide +kernel
theorem d61_95 : decode prog_10_method_5_code 95 = .ok (.invokestatic 44, 3) := by decide +kernel
theorem d61_98 : decode prog_10_method_5_code 98 = .ok (.aload_n 0, 1) := by decide +kernel
theorem d61_99 : decode prog_10_method_5_code 99 = .ok (.getfield 9, 3) := by decide +kernel
theorem d61_102 : decode prog_10_method_5_code 102 = .ok (.iload_n 1, 1) := by decide +kernel
theorem d61_103 : decode prog_10_method_5_code 103 = .ok (.iload_n 2, 1) := by decide +kernel
theorem d61_104 : decode prog_10_method_5_code 104 = .ok (.iastore, 1) := by decide +kernel
theorem d61_105 : decode prog_10_method_5_code 105 = .ok (.aload_n 0, 1) := by decide +kernel
theorem d61_106 : decode prog_10_method_5_code 106 = .ok (.getfield 15, 3) := by decide +kernel
theorem d61_109 : decode prog_10_method_5_code 109 = .ok (.iload_n 1, 1) := by decide +kernel
theorem d61_110 : decode prog_10_method_5_code 110 = .ok (.iload_n 3, 1) := by decide +kernel
theorem d61_111 : decode prog_10_method_5_code 111 = .ok (.iastore, 1) := by decide +kernel
theorem d61_112 : decode prog_10_method_5_code 112 = .ok (.aload_n 0, 1) := by decide +kernel
theorem d61_113 : decode prog_10_method_5_code 113 = .ok (.getfield 18, 3) := by decide +kernel
theorem d61_116 : decode prog_10_method_5_code 116 = .ok (.iload_n 1, 1) := by decide +kernel
theorem d61_117 : decode prog_10_method_5_code 117 = .ok (.iload 4, 2) := by decide +kernel
theorem d61_119 : decode prog_10_method_5_code 119 = .ok (.iastore, 1) := by decide +kernel
theorem d61_120 : decode prog_10_method_5_code 120 = .ok (.aload_n 0, 1) := by decide +kernel
theorem d61_121 : decode prog_10_method_5_code 121 = .ok (.getfield 21, 3) := by decide +kernel
theorem d61_124 : decode prog_10_method_5_code 124 = .ok (.iload_n 1, 1) := by decide +kernel
theorem d61_125 : decode prog_10_method_5_code 125 = .ok (.iload 5, 2) := by decide +kernel
theorem d61_127 : decode prog_10_method_5_code 127 = .ok (.iconst 1, 1) := by decide +kernel
theorem d61_128 : decode prog_10_method_5_code 128 = .ok (.iadd, 1) := by decide +kernel
theorem d61_129 : decode prog_10_method_5_code 129 = .ok (.iastore, 1) := by decide +kernel
theorem d61_130 : decode prog_10_method_5_code 130 = .ok (.return_, 1) := by decide +kernel
theorem m61 : pm_m 61 = some (⟨"TypeRules$Tree", "wrap", "(IIII)V"⟩, prog_10_method_5_code, 6, none, 3, 4, 4) := rfl
theorem d62_0 : decode prog_10_method_15_code 0 = .ok (.iload_n 1, 1) := by decide +kernel
theorem d62_1 : decode prog_10_method_15_code 1 = .ok (.ifCond .lt 18, 3) := by decide +kernel
theorem d62_4 : decode prog_10_method_15_code 4 = .ok (.iload_n 1, 1) := by decide +kernel
theorem d62_5 : decode prog_10_method_15_code 5 = .ok (.aload_n 0, 1) := by decide +kernel
theorem d62_6 : decode prog_10_method_15_code 6 = .ok (.getfield 36, 3) := by decide +kernel
theorem d62_9 : decode prog_10_method_15_code 9 = .ok (.if_icmp .ge 10, 3) := by decide +kernel
theorem d62_12 : decode prog_10_method_15_code 12 = .ok (.aload_n 0, 1) := by decide +kernel
theorem d62_13 : decode prog_10_method_15_code 13 = .ok (.getfield 15, 3) := by decide +kernel
theorem d62_16 : decode prog_10_method_15_code 16 = .ok (.iload_n 1, 1) := by decide +kernel
theorem d62_17 : decode prog_10_method_15_code 17 = .ok (.iload_n 2, 1) := by decide +kernel
theorem d62_18 : decode prog_10_method_15_code 18 = .ok (.iastore, 1) := by decide +kernel
theorem d62_19 : decode prog_10_method_15_code 19 = .ok (.return_, 1) := by decide +kernel
theorem m62 : pm_m 62 = some (⟨"TypeRules$Tree", "setPlace", "(II)V"⟩, prog_10_method_15_code, 3, none, 3, 2, 4) := rfl
theorem d97_0 : decode prog_6_method_12_code 0 = .ok (.aload_n 0, 1) := by decide +kernel
theorem d97_1 : decode prog_6_method_12_code 1 = .ok (.getfield 19, 3) := by decide +kernel
theorem d97_4 : decode prog_6_method_12_code 4 = .ok (.bipush 60, 2) := by decide +kernel
theorem d97_6 : decode prog_6_method_12_code 6 = .ok (.if_icmp .ge 23, 3) := by decide +kernel
theorem d97_9 : decode prog_6_method_12_code 9 = .ok (.aload_n 0, 1) := by decide +kernel
theorem d97_10 : decode prog_6_method_12_code 10 = .ok (.dup, 1) := by decide +kernel
theorem d97_11 : decode prog_6_method_12_code 11 = .ok (.getfield 19, 3) := by decide +kernel
theorem d97_14 : decode prog_6_method_12_code 14 = .ok (.iconst 1, 1) := by decide +kernel
theorem d97_15 : decode prog_6_method_12_code 15 = .ok (.iadd, 1) := by decide +kernel
theorem d97_16 : decode prog_6_method_12_code 16 = .ok (.putfield 19, 3) := by decide +kernel
theorem d97_19 : decode prog_6_method_12_code 19 = .ok (.aload_n 0, 1) := by decide +kernel
theorem d97_20 : decode prog_6_method_12_code 20 = .ok (.getfield 9, 3) := by decide +kernel
theorem d97_23 : decode prog_6_method_12_code 23 = .ok (.invokevirtual 68, 3) := by decide +kernel
theorem d97_26 : decode prog_6_method_12_code 26 = .ok (.goto 15, 3) := by decide +kernel
theorem d97_29 : decode prog_6_method_12_code 29 = .ok (.aload_n 0, 1) := by decide +kernel
theorem d97_30 : decode prog_6_method_12_code 30 = .ok (.iconst 1, 1) := by decide +kernel
theorem d97_31 : decode prog_6_method_12_code 31 = .ok (.putfield 23, 3) := by decide +kernel
theorem d97_34 : decode prog_6_method_12_code 34 = .ok (.aload_n 0, 1) := by decide +kernel
theorem d97_35 : decode prog_6_method_12_code 35 = .ok (.getfield 9, 3) := by decide +kernel
theorem d97_38 : decode prog_6_method_12_code 38 = .ok (.invokevirtual 105, 3) := by decide +kernel
theorem d97_41 : decode prog_6_method_12_code 41 = .ok (.return_, 1) := by decide +kernel
theorem m97 : pm_m 97 = some (⟨"TypeRules$Parser", "openHere", "()V"⟩, prog_6_method_12_code, 1, none, 4, 0, 5) := rfl
/-! TREE -/
def ta (σ : pm_S) (m : Nat) (x y z : Int32) : pm_S := pm_pi (pm_pr (pm_pr (pm_pr (pm_pr (pm_pr (pm_pr (pm_pr (pm_pr σ 19 (upd (σ.2.2 19) m x)) 20 (upd (σ.2.2 20) m y)) 21 (upd (σ.2.2 21) m z)) 22 (upd (σ.2.2 22) m 1)) 23 (upd (σ.2.2 23) m (-1))) 24 (upd (σ.2.2 24) m (-1))) 25 (upd (σ.2.2 25) m (-1))) 26 (upd (σ.2.2 26) m (-1))) 3 8 (nI (m + 1))
theorem ta_F {σ0 σ : pm_S} {m : Nat} {x y z : Int32} (h : pc_F σ0 σ) : pc_F σ0 (ta σ m x y z) := pc_pi (pc_pr (pc_pr (pc_pr (pc_pr (pc_pr (pc_pr (pc_pr (pc_pr h (by decide)) (by decide)) (by decide)) (by decide)) (by decide)) (by decide)) (by decide)) (by decide)) (by decide)
theorem ta_L {σ : pm_S} {l : List pg_N} {k p : Nat} {v : Int32} (h : tr_L σ l) : tr_L (ta σ l.length (nI k) (nI p) v) (l ++ [(k, p, v, 1)]) := by
  refine ⟨by rw [List.length_append]; rfl, fun j x hx => ?_⟩
  show upd (σ.2.2 19) l.length (nI k) j = _ ∧ upd (σ.2.2 20) l.length (nI p) j = _ ∧ upd (σ.2.2 21) l.length v j = _ ∧ upd (σ.2.2 22) l.length 1 j = _ ∧ upd (σ.2.2 23) l.length (-1) j = _ ∧ upd (σ.2.2 24) l.length (-1) j = _ ∧ upd (σ.2.2 25) l.length (-1) j = _ ∧ upd (σ.2.2 26) l.length (-1) j = _
  by_cases q : j = l.length
  · subst q
    rw [List.getElem?_append_right (Nat.le_refl _), Nat.sub_self] at hx
    cases hx
    rw [pk_us, pk_us, pk_us, pk_us, pk_us, pk_us, pk_us, pk_us]
    exact ⟨rfl, rfl, rfl, rfl, rfl, rfl, rfl, rfl⟩
  · have hj : j < l.length := by
      rcases Nat.lt_or_ge j l.length with z | z
      · exact z
      · rw [List.getElem?_eq_none (by rw [List.length_append, List.length_singleton]; omega)] at hx; cases hx
    rw [List.getElem?_append_left hj] at hx
    simp only [pk_un q]
    exact h.2 j x hx
theorem pk57' {d : Nat} {T : pg_T} {n : Nat} {σ0 σ : pm_S} {c : pg_C} {l s : List pg_N} {Q : Option Value → pm_S → Prop} {k p : Nat} {v : Int32} (hR : pc_R T n σ0 σ c l s) (hQ : ∀ σ' x, ((l ++ s).length < 16386 → x = nI (l ++ s).length) → pc_B T n σ0 σ' c ((l ++ s) ++ [(k, p, v, 1)]) → Q (some (.int x)) σ') : pm_call pm_Y0 (d + 1) 57 [.ref 3, .int (nI k), .int (nI p), .int v] σ Q := by
  have hB : pc_B T n σ0 σ c (l ++ s) := hR
  obtain ⟨r1, r2, r3, r4, r5, r6, ⟨m, r7, r7'⟩, r8⟩ := hR
  have em := nI_toInt (n := m) (by omega)
  have ek := nI_clamp (n := m) (by omega)
  have hful : ¬ m < 16386 → Q (some (.int (-1))) σ := fun h => hQ σ (-1) (fun hl => by
      have := (r8 (by omega)).1
      rw [r7'] at this
      exact absurd ((nI_eq (by omega) (by omega)).mp this) (by omega)) ⟨r1, r2, r3, r4, r5, r6, ⟨m, r7, r7'⟩, fun hl => by
      rw [List.length_append, List.length_singleton] at hl
      have := (r8 (by omega)).1
      rw [r7'] at this
      exact absurd ((nI_eq (by omega) (by omega)).mp this) (by omega)⟩
  have hadd : m < 16386 → Q (some (.int (nI m))) (ta σ m (nI k) (nI p) v) := fun h => hQ _ _ (fun hl => by
      have := (r8 (by omega)).1
      rw [r7'] at this
      exact this) ⟨ta_F r1, r2, r3, r4, r5, r6, ⟨m + 1, by omega, rfl⟩, fun hl => by
      rw [List.length_append, List.length_singleton] at hl
      have hL := r8 (by omega)
      have := hL.1
      rw [r7'] at this
      have := (nI_eq (by omega) (by omega)).mp this
      rw [this]
      exact ta_L hL⟩
  refine wq_m m57 (Nat.le_of_ble_eq_true rfl) (by decide) rfl ?_
  refine wq_l 1 d57_0 rfl rfl rfl rfl ?_
  refine wq_gi (ci := 3) (j := 8) 4 d57_1 rfl rfl rfl rfl ?_
  first | simp only [pm_r1r, r7'] | rw [show ∀ (τ : pm_S) (y : Int32), (pm_pi τ 3 8 y).1 3 8 = y from fun _ _ => rfl]
  refine wq_k 7 16386 d57_4 (by decide) rfl ?_
  refine wq_b 12 10 d57_7 rfl (by decide) rfl (fun c7 => ?_) (fun c7 => ?_)
  · -- pc 12
    have hm : m < 16386 := (by simp only [i_lt, i_le, i_eq, ne_eq, Int32.reduceToInt, b2_0, b2_1, decide_eq_true_eq, decide_eq_false_iff_not, Bool.not_eq_true, Bool.not_eq_false] at * <;> omega)
    refine wq_l 13 d57_12 rfl rfl rfl rfl ?_
    refine wq_gr (ci := 3) (j := 0) (q := 19) 16 d57_13 rfl rfl rfl rfl ?_
    refine wq_l 17 d57_16 rfl rfl rfl rfl ?_
    refine wq_gi (ci := 3) (j := 8) 20 d57_17 rfl rfl rfl rfl ?_
    first | simp only [pm_r1r, r7'] | rw [show ∀ (τ : pm_S) (y : Int32), (pm_pi τ 3 8 y).1 3 8 = y from fun _ _ => rfl]
    refine wq_l 21 d57_20 rfl rfl rfl rfl ?_
    refine wq_as 22 d57_21 rfl rfl rfl (vp_in_iff.mpr (by simp only [i_lt, i_le, i_eq, ne_eq, Int32.reduceToInt, b2_0, b2_1, decide_eq_true_eq, decide_eq_false_iff_not, Bool.not_eq_true, Bool.not_eq_false] at * <;> omega)) ?_
    refine wq_l 23 d57_22 rfl rfl rfl rfl ?_
    refine wq_gr (ci := 3) (j := 1) (q := 20) 26 d57_23 rfl rfl rfl rfl ?_
    refine wq_l 27 d57_26 rfl rfl rfl rfl ?_
    refine wq_gi (ci := 3) (j := 8) 30 d57_27 rfl rfl rfl rfl ?_
    first | simp only [pm_r1r, r7'] | rw [show ∀ (τ : pm_S) (y : Int32), (pm_pi τ 3 8 y).1 3 8 = y from fun _ _ => rfl]
    refine wq_l 31 d57_30 rfl rfl rfl rfl ?_
    refine wq_as 32 d57_31 rfl rfl rfl (vp_in_iff.mpr (by simp only [i_lt, i_le, i_eq, ne_eq, Int32.reduceToInt, b2_0, b2_1, decide_eq_true_eq, decide_eq_false_iff_not, Bool.not_eq_true, Bool.not_eq_false] at * <;> omega)) ?_
    refine wq_l 33 d57_32 rfl rfl rfl rfl ?_
    refine wq_gr (ci := 3) (j := 2) (q := 21) 36 d57_33 rfl rfl rfl rfl ?_
    refine wq_l 37 d57_36 rfl rfl rfl rfl ?_
    refine wq_gi (ci := 3) (j := 8) 40 d57_37 rfl rfl rfl rfl ?_
    first | simp only [pm_r1r, r7'] | rw [show ∀ (τ : pm_S) (y : Int32), (pm_pi τ 3 8 y).1 3 8 = y from fun _ _ => rfl]
    refine wq_l 41 d57_40 rfl rfl rfl rfl ?_
    refine wq_as 42 d57_41 rfl rfl rfl (vp_in_iff.mpr (by simp only [i_lt, i_le, i_eq, ne_eq, Int32.reduceToInt, b2_0, b2_1, decide_eq_true_eq, decide_eq_false_iff_not, Bool.not_eq_true, Bool.not_eq_false] at * <;> omega)) ?_
    refine wq_l 43 d57_42 rfl rfl rfl rfl ?_
    refine wq_gr (ci := 3) (j := 3) (q := 22) 46 d57_43 rfl rfl rfl rfl ?_
    refine wq_l 47 d57_46 rfl rfl rfl rfl ?_
    refine wq_gi (ci := 3) (j := 8) 50 d57_47 rfl rfl rfl rfl ?_
    first | simp only [pm_r1r, r7'] | rw [show ∀ (τ : pm_S) (y : Int32), (pm_pi τ 3 8 y).1 3 8 = y from fun _ _ => rfl]
    refine wq_k 51 1 d57_50 (by decide) rfl ?_
    refine wq_as 52 d57_51 rfl rfl rfl (vp_in_iff.mpr (by simp only [i_lt, i_le, i_eq, ne_eq, Int32.reduceToInt, b2_0, b2_1, decide_eq_true_eq, decide_eq_false_iff_not, Bool.not_eq_true, Bool.not_eq_false] at * <;> omega)) ?_
    refine wq_l 53 d57_52 rfl rfl rfl rfl ?_
    refine wq_gr (ci := 3) (j := 4) (q := 23) 56 d57_53 rfl rfl rfl rfl ?_
    refine wq_l 57 d57_56 rfl rfl rfl rfl ?_
    refine wq_gi (ci := 3) (j := 8) 60 d57_57 rfl rfl rfl rfl ?_
    first | simp only [pm_r1r, r7'] | rw [show ∀ (τ : pm_S) (y : Int32), (pm_pi τ 3 8 y).1 3 8 = y from fun _ _ => rfl]
    refine wq_k 61 (-1) d57_60 (by decide) rfl ?_
    refine wq_as 62 d57_61 rfl rfl rfl (vp_in_iff.mpr (by simp only [i_lt, i_le, i_eq, ne_eq, Int32.reduceToInt, b2_0, b2_1, decide_eq_true_eq, decide_eq_false_iff_not, Bool.not_eq_true, Bool.not_eq_false] at * <;> omega)) ?_
    refine wq_l 63 d57_62 rfl rfl rfl rfl ?_
    refine wq_gr (ci := 3) (j := 5) (q := 24) 66 d57_63 rfl rfl rfl rfl ?_
    refine wq_l 67 d57_66 rfl rfl rfl rfl ?_
    refine wq_gi (ci := 3) (j := 8) 70 d57_67 rfl rfl rfl rfl ?_
    first | simp only [pm_r1r, r7'] | rw [show ∀ (τ : pm_S) (y : Int32), (pm_pi τ 3 8 y).1 3 8 = y from fun _ _ => rfl]
    refine wq_k 71 (-1) d57_70 (by decide) rfl ?_
    refine wq_as 72 d57_71 rfl rfl rfl (vp_in_iff.mpr (by simp only [i_lt, i_le, i_eq, ne_eq, Int32.reduceToInt, b2_0, b2_1, decide_eq_true_eq, decide_eq_false_iff_not, Bool.not_eq_true, Bool.not_eq_false] at * <;> omega)) ?_
    refine wq_l 73 d57_72 rfl rfl rfl rfl ?_
    refine wq_gr (ci := 3) (j := 6) (q := 25) 76 d57_73 rfl rfl rfl rfl ?_
    refine wq_l 77 d57_76 rfl rfl rfl rfl ?_
    refine wq_gi (ci := 3) (j := 8) 80 d57_77 rfl rfl rfl rfl ?_
    first | simp only [pm_r1r, r7'] | rw [show ∀ (τ : pm_S) (y : Int32), (pm_pi τ 3 8 y).1 3 8 = y from fun _ _ => rfl]
    refine wq_k 81 (-1) d57_80 (by decide) rfl ?_
    refine wq_as 82 d57_81 rfl rfl rfl (vp_in_iff.mpr (by simp only [i_lt, i_le, i_eq, ne_eq, Int32.reduceToInt, b2_0, b2_1, decide_eq_true_eq, decide_eq_false_iff_not, Bool.not_eq_true, Bool.not_eq_false] at * <;> omega)) ?_
    refine wq_l 83 d57_82 rfl rfl rfl rfl ?_
    refine wq_gr (ci := 3) (j := 7) (q := 26) 86 d57_83 rfl rfl rfl rfl ?_
    refine wq_l 87 d57_86 rfl rfl rfl rfl ?_
    refine wq_gi (ci := 3) (j := 8) 90 d57_87 rfl rfl rfl rfl ?_
    first | simp only [pm_r1r, r7'] | rw [show ∀ (τ : pm_S) (y : Int32), (pm_pi τ 3 8 y).1 3 8 = y from fun _ _ => rfl]
    refine wq_k 91 (-1) d57_90 (by decide) rfl ?_
    refine wq_as 92 d57_91 rfl rfl rfl (vp_in_iff.mpr (by simp only [i_lt, i_le, i_eq, ne_eq, Int32.reduceToInt, b2_0, b2_1, decide_eq_true_eq, decide_eq_false_iff_not, Bool.not_eq_true, Bool.not_eq_false] at * <;> omega)) ?_
    refine wq_l 93 d57_92 rfl rfl rfl rfl ?_
    refine wq_a 94 d57_93 rfl rfl ?_
    refine wq_gi (ci := 3) (j := 8) 97 d57_94 rfl rfl rfl rfl ?_
    first | simp only [pm_r1r, r7'] | rw [show ∀ (τ : pm_S) (y : Int32), (pm_pi τ 3 8 y).1 3 8 = y from fun _ _ => rfl]
    refine wq_k 98 1 d57_97 (by decide) rfl ?_
    refine wq_a 99 d57_98 rfl rfl ?_
    rw [show nI m + 1 = nI (m + 1) from (nI_succ m).symm]
    refine wq_pf (ci := 3) (j := 8) 102 d57_99 rfl rfl rfl ⟨rfl, rfl⟩ rfl ?_
    refine wq_l 103 d57_102 rfl rfl rfl rfl ?_
    refine wq_gi (ci := 3) (j := 8) 106 d57_103 rfl rfl rfl rfl ?_
    first | simp only [pm_r1r, r7'] | rw [show ∀ (τ : pm_S) (y : Int32), (pm_pi τ 3 8 y).1 3 8 = y from fun _ _ => rfl]
    refine wq_k 107 1 d57_106 (by decide) rfl ?_
    refine wq_a 108 d57_107 rfl rfl ?_
    rw [ek, nI_pred]
    refine wq_ri d57_108 (rfl) ?_
    exact hadd hm
  · -- pc 10
    refine wq_k 11 (-1) d57_10 (by decide) rfl ?_
    refine wq_ri d57_11 (rfl) ?_
    exact hful (by simp only [i_lt, i_le, i_eq, ne_eq, Int32.reduceToInt, b2_0, b2_1, decide_eq_true_eq, decide_eq_false_iff_not, Bool.not_eq_true, Bool.not_eq_false] at * <;> omega)
/-- a leaf -/
theorem pk57 {d : Nat} {T : pg_T} {n : Nat} {σ0 σ : pm_S} {c : pg_C} {l s : List pg_N} {Q : Option Value → pm_S → Prop} {k p : Nat} {v : Int32} (hR : pc_R T n σ0 σ c l s) (hQ : ∀ σ' x, pc_R T n σ0 σ' c l (s ++ [(k, p, v, 1)]) → Q (some (.int x)) σ') : pm_call pm_Y0 (d + 1) 57 [.ref 3, .int (nI k), .int (nI p), .int v] σ Q := pk57' hR (fun σ' x _ h => hQ σ' x (by unfold pc_R; rw [← List.append_assoc]; exact h))
/-- a node that stays open -/
theorem pk57o {d : Nat} {T : pg_T} {n : Nat} {σ0 σ : pm_S} {c : pg_C} {l s : List pg_N} {Q : Option Value → pm_S → Prop} {k p : Nat} {v : Int32} (hR : pc_R T n σ0 σ c l s) (hQ : ∀ σ' x, ((l ++ s).length < 16386 → x = nI (l ++ s).length) → pc_R T n σ0 σ' c ((l ++ s) ++ [(k, p, v, 1)]) [] → Q (some (.int x)) σ') : pm_call pm_Y0 (d + 1) 57 [.ref 3, .int (nI k), .int (nI p), .int v] σ Q := pk57' hR (fun σ' x h1 h => hQ σ' x h1 (by unfold pc_R; rw [List.append_nil]; exact h))
theorem tr_len {L r : List pg_N} {y : pg_N} : ((L ++ [y]) ++ r).length = L.length + 1 + r.length := by simp; omega
theorem tr_set {σ σ' : pm_S} {L r : List pg_N} {y y' : pg_N} (h : tr_L σ ((L ++ [y]) ++ r)) (h1 : σ'.1 3 8 = σ.1 3 8) (ho : ∀ j, j ≠ L.length → σ'.2.2 19 j = σ.2.2 19 j ∧ σ'.2.2 20 j = σ.2.2 20 j ∧ σ'.2.2 21 j = σ.2.2 21 j ∧ σ'.2.2 22 j = σ.2.2 22 j) (hq : ∀ k, 23 ≤ k → σ'.2.2 k = σ.2.2 k) (he : σ'.2.2 19 L.length = nI y'.1 ∧ σ'.2.2 20 L.length = nI y'.2.1 ∧ σ'.2.2 21 L.length = y'.2.2.1 ∧ σ'.2.2 22 L.length = nI y'.2.2.2) : tr_L σ' ((L ++ [y']) ++ r) := by
  refine ⟨by rw [h1, h.1]; simp, fun j x hx => ?_⟩
  rw [hq 23 (by omega), hq 24 (by omega), hq 25 (by omega), hq 26 (by omega)]
  by_cases q : j = L.length
  · subst q
    rw [List.append_assoc, List.getElem?_append_right (Nat.le_refl _), Nat.sub_self] at hx
    cases hx
    have := h.2 L.length y (by rw [List.append_assoc, List.getElem?_append_right (Nat.le_refl _), Nat.sub_self]; rfl)
    exact ⟨he.1, he.2.1, he.2.2.1, he.2.2.2, this.2.2.2.2⟩
  · have hx' : ((L ++ [y]) ++ r)[j]? = some x := by
      rw [List.append_assoc] at hx ⊢
      by_cases w : j < L.length
      · rw [List.getElem?_append_left w] at hx ⊢; exact hx
      · rw [List.getElem?_append_right (by omega)] at hx ⊢
        rw [show j - L.length = (j - L.length - 1) + 1 by omega] at hx ⊢
        exact hx
    have := h.2 j x hx'
    obtain ⟨o1, o2, o3, o4⟩ := ho j q
    rw [o1, o2, o3, o4]
    exact this
theorem pk58 {d : Nat} {T : pg_T} {n : Nat} {σ0 σ : pm_S} {c : pg_C} {L r : List pg_N} {k p z : Nat} {v x : Int32} {Q : Option Value → pm_S → Prop} {w : Int32} (hx : L.length < 16386 → x = nI L.length) (hR : pc_R T n σ0 σ c (L ++ [(k, p, v, z)]) r) (hQ : ∀ σ', pc_R T n σ0 σ' c (L ++ [(k, p, w, z)]) r → Q none σ') : pm_call pm_Y0 (d + 1) 58 [.ref 3, .int x, .int w] σ Q := by
  have hB : pc_B T n σ0 σ c ((L ++ [(k, p, v, z)]) ++ r) := hR
  obtain ⟨r1, r2, r3, r4, r5, r6, ⟨m, r7, r7'⟩, r8⟩ := hR
  have em := nI_toInt (n := m) (by omega)
  have hlen : ((L ++ [(k, p, v, z)]) ++ r).length = L.length + 1 + r.length := tr_len
  have hx' : L.length + 1 + r.length ≤ 16386 → x = nI L.length ∧ m = L.length + 1 + r.length := fun h => by
    have := (r8 (by omega)).1
    rw [r7', hlen] at this
    exact ⟨hx (by omega), (nI_eq (by omega) (by omega)).mp this⟩
  have hno : (x < 0 ∨ nI m ≤ x) → Q none σ := fun h => hQ σ ⟨r1, r2, r3, r4, r5, r6, ⟨m, r7, r7'⟩, fun hl => by
    rw [show ((L ++ [(k, p, w, z)]) ++ r).length = L.length + 1 + r.length from tr_len] at hl
    obtain ⟨e1, e2⟩ := hx' hl
    have ex := nI_toInt (n := L.length) (by omega)
    exfalso
    subst e1
    simp only [i_lt, i_le, ex, em, Int32.reduceToInt] at h
    omega⟩
  have hyes : ¬ x < 0 → ¬ nI m ≤ x → Q none (pm_pr σ 21 (upd (σ.2.2 21) x.toNatClampNeg (w))) := fun h1 h2 => hQ _ ⟨pc_pr r1 (by decide), r2, r3, r4, r5, r6, ⟨m, r7, r7'⟩, fun hl => by
    rw [show ((L ++ [(k, p, w, z)]) ++ r).length = L.length + 1 + r.length from tr_len] at hl
    obtain ⟨e1, e2⟩ := hx' hl
    subst e1
    have hL := r8 (by omega)
    have e0 := hL.2 L.length (k, p, v, z) (by rw [List.append_assoc, List.getElem?_append_right (Nat.le_refl _), Nat.sub_self]; rfl)
    rw [nI_clamp (by omega)]
    refine tr_set hL rfl (fun j hj => ?_) (fun k hk => pm_rne (by omega)) ?_
    · simp only [pm_pr, pk_un hj]
      simp [pk_un hj]
    · simp only [pm_pr, pk_us]
      simp [pk_us, e0.1, e0.2.1, e0.2.2.1, e0.2.2.2.1]⟩
  refine wq_m m58 (Nat.le_of_ble_eq_true rfl) (by decide) rfl ?_
  refine wq_l 1 d58_0 rfl rfl rfl rfl ?_
  refine wq_b 19 4 d58_1 rfl (by decide) rfl (fun c1 => ?_) (fun c1 => ?_)
  · -- pc 19
    refine wq_rv d58_19 ?_
    first | exact hyes c1 c9 | exact hno (Or.inl c1) | exact hno (Or.inr c9)
  · -- pc 4
    refine wq_l 5 d58_4 rfl rfl rfl rfl ?_
    refine wq_l 6 d58_5 rfl rfl rfl rfl ?_
    refine wq_gi (ci := 3) (j := 8) 9 d58_6 rfl rfl rfl rfl ?_
    rw [r7']
    refine wq_b 19 12 d58_9 rfl (by decide) rfl (fun c9 => ?_) (fun c9 => ?_)
    · -- pc 19
      refine wq_rv d58_19 ?_
      first | exact hyes c1 c9 | exact hno (Or.inl c1) | exact hno (Or.inr c9)
    · -- pc 12
      refine wq_l 13 d58_12 rfl rfl rfl rfl ?_
      refine wq_gr (ci := 3) (j := 2) (q := 21) 16 d58_13 rfl rfl rfl rfl ?_
      refine wq_l 17 d58_16 rfl rfl rfl rfl ?_
      refine wq_l 18 d58_17 rfl rfl rfl rfl ?_
      refine wq_as 19 d58_18 rfl rfl rfl (vp_in_iff.mpr (by simp only [i_lt, i_le, i_eq, ne_eq, Int32.reduceToInt, b2_0, b2_1, decide_eq_true_eq, decide_eq_false_iff_not, Bool.not_eq_true, Bool.not_eq_false] at * <;> omega)) ?_
      refine wq_rv d58_19 ?_
      first | exact hyes c1 c9 | exact hno (Or.inl c1) | exact hno (Or.inr c9)
theorem pk62 {d : Nat} {T : pg_T} {n : Nat} {σ0 σ : pm_S} {c : pg_C} {L r : List pg_N} {k p z : Nat} {v x : Int32} {Q : Option Value → pm_S → Prop} {w : Nat} (hx : L.length < 16386 → x = nI L.length) (hR : pc_R T n σ0 σ c (L ++ [(k, p, v, z)]) r) (hQ : ∀ σ', pc_R T n σ0 σ' c (L ++ [(k, w, v, z)]) r → Q none σ') : pm_call pm_Y0 (d + 1) 62 [.ref 3, .int x, .int (nI w)] σ Q := by
  have hB : pc_B T n σ0 σ c ((L ++ [(k, p, v, z)]) ++ r) := hR
  obtain ⟨r1, r2, r3, r4, r5, r6, ⟨m, r7, r7'⟩, r8⟩ := hR
  have em := nI_toInt (n := m) (by omega)
  have hlen : ((L ++ [(k, p, v, z)]) ++ r).length = L.length + 1 + r.length := tr_len
  have hx' : L.length + 1 + r.length ≤ 16386 → x = nI L.length ∧ m = L.length + 1 + r.length := fun h => by
    have := (r8 (by omega)).1
    rw [r7', hlen] at this
    exact ⟨hx (by omega), (nI_eq (by omega) (by omega)).mp this⟩
  have hno : (x < 0 ∨ nI m ≤ x) → Q none σ := fun h => hQ σ ⟨r1, r2, r3, r4, r5, r6, ⟨m, r7, r7'⟩, fun hl => by
    rw [show ((L ++ [(k, w, v, z)]) ++ r).length = L.length + 1 + r.length from tr_len] at hl
    obtain ⟨e1, e2⟩ := hx' hl
    have ex := nI_toInt (n := L.length) (by omega)
    exfalso
    subst e1
    simp only [i_lt, i_le, ex, em, Int32.reduceToInt] at h
    omega⟩
  have hyes : ¬ x < 0 → ¬ nI m ≤ x → Q none (pm_pr σ 20 (upd (σ.2.2 20) x.toNatClampNeg (nI w))) := fun h1 h2 => hQ _ ⟨pc_pr r1 (by decide), r2, r3, r4, r5, r6, ⟨m, r7, r7'⟩, fun hl => by
    rw [show ((L ++ [(k, w, v, z)]) ++ r).length = L.length + 1 + r.length from tr_len] at hl
    obtain ⟨e1, e2⟩ := hx' hl
    subst e1
    have hL := r8 (by omega)
    have e0 := hL.2 L.length (k, p, v, z) (by rw [List.append_assoc, List.getElem?_append_right (Nat.le_refl _), Nat.sub_self]; rfl)
    rw [nI_clamp (by omega)]
    refine tr_set hL rfl (fun j hj => ?_) (fun k hk => pm_rne (by omega)) ?_
    · simp only [pm_pr, pk_un hj]
      simp [pk_un hj]
    · simp only [pm_pr, pk_us]
      simp [pk_us, e0.1, e0.2.1, e0.2.2.1, e0.2.2.2.1]⟩
  refine wq_m m62 (Nat.le_of_ble_eq_true rfl) (by decide) rfl ?_
  refine wq_l 1 d62_0 rfl rfl rfl rfl ?_
  refine wq_b 19 4 d62_1 rfl (by decide) rfl (fun c1 => ?_) (fun c1 => ?_)
  · -- pc 19
    refine wq_rv d62_19 ?_
    first | exact hyes c1 c9 | exact hno (Or.inl c1) | exact hno (Or.inr c9)
  · -- pc 4
    refine wq_l 5 d62_4 rfl rfl rfl rfl ?_
    refine wq_l 6 d62_5 rfl rfl rfl rfl ?_
    refine wq_gi (ci := 3) (j := 8) 9 d62_6 rfl rfl rfl rfl ?_
    rw [r7']
    refine wq_b 19 12 d62_9 rfl (by decide) rfl (fun c9 => ?_) (fun c9 => ?_)
    · -- pc 19
      refine wq_rv d62_19 ?_
      first | exact hyes c1 c9 | exact hno (Or.inl c1) | exact hno (Or.inr c9)
    · -- pc 12
      refine wq_l 13 d62_12 rfl rfl rfl rfl ?_
      refine wq_gr (ci := 3) (j := 1) (q := 20) 16 d62_13 rfl rfl rfl rfl ?_
      refine wq_l 17 d62_16 rfl rfl rfl rfl ?_
      refine wq_l 18 d62_17 rfl rfl rfl rfl ?_
      refine wq_as 19 d62_18 rfl rfl rfl (vp_in_iff.mpr (by simp only [i_lt, i_le, i_eq, ne_eq, Int32.reduceToInt, b2_0, b2_1, decide_eq_true_eq, decide_eq_false_iff_not, Bool.not_eq_true, Bool.not_eq_false] at * <;> omega)) ?_
      refine wq_rv d62_19 ?_
      first | exact hyes c1 c9 | exact hno (Or.inl c1) | exact hno (Or.inr c9)
theorem pk59 {d : Nat} {T : pg_T} {n : Nat} {σ0 σ : pm_S} {c : pg_C} {L r : List pg_N} {k p z : Nat} {v x : Int32} {Q : Option Value → pm_S → Prop} (hx : L.length < 16386 → x = nI L.length) (hR : pc_R T n σ0 σ c (L ++ [(k, p, v, z)]) r) (hQ : ∀ σ', pc_R T n σ0 σ' c L ((k, p, v, r.length + 1) :: r) → Q none σ') : pm_call pm_Y0 (d + 1) 59 [.ref 3, .int x] σ Q := by
  have hQ : ∀ σ', pc_R T n σ0 σ' c (L ++ [(k, p, v, r.length + 1)]) r → Q none σ' := fun σ' h => hQ σ' (pc_e h rfl (by rw [List.append_assoc]; rfl))
  have hB : pc_B T n σ0 σ c ((L ++ [(k, p, v, z)]) ++ r) := hR
  obtain ⟨r1, r2, r3, r4, r5, r6, ⟨m, r7, r7'⟩, r8⟩ := hR
  have em := nI_toInt (n := m) (by omega)
  have hlen : ((L ++ [(k, p, v, z)]) ++ r).length = L.length + 1 + r.length := tr_len
  have hx' : L.length + 1 + r.length ≤ 16386 → x = nI L.length ∧ m = L.length + 1 + r.length := fun h => by
    have := (r8 (by omega)).1
    rw [r7', hlen] at this
    exact ⟨hx (by omega), (nI_eq (by omega) (by omega)).mp this⟩
  have hno : (x < 0 ∨ nI m ≤ x) → Q none σ := fun h => hQ σ ⟨r1, r2, r3, r4, r5, r6, ⟨m, r7, r7'⟩, fun hl => by
    rw [show ((L ++ [(k, p, v, r.length + 1)]) ++ r).length = L.length + 1 + r.length from tr_len] at hl
    obtain ⟨e1, e2⟩ := hx' hl
    have ex := nI_toInt (n := L.length) (by omega)
    exfalso
    subst e1
    simp only [i_lt, i_le, ex, em, Int32.reduceToInt] at h
    omega⟩
  have hyes : ¬ x < 0 → ¬ nI m ≤ x → Q none (pm_pr σ 22 (upd (σ.2.2 22) x.toNatClampNeg (nI m - x))) := fun h1 h2 => hQ _ ⟨pc_pr r1 (by decide), r2, r3, r4, r5, r6, ⟨m, r7, r7'⟩, fun hl => by
    rw [show ((L ++ [(k, p, v, r.length + 1)]) ++ r).length = L.length + 1 + r.length from tr_len] at hl
    obtain ⟨e1, e2⟩ := hx' hl
    subst e1
    have hL := r8 (by omega)
    have e0 := hL.2 L.length (k, p, v, z) (by rw [List.append_assoc, List.getElem?_append_right (Nat.le_refl _), Nat.sub_self]; rfl)
    rw [nI_clamp (by omega), pk_sub (by omega), show m - L.length = r.length + 1 by omega]
    refine tr_set hL rfl (fun j hj => ?_) (fun k hk => pm_rne (by omega)) ?_
    · simp only [pm_pr, pk_un hj]
      simp [pk_un hj]
    · simp only [pm_pr, pk_us]
      simp [pk_us, e0.1, e0.2.1, e0.2.2.1]⟩
  refine wq_m m59 (Nat.le_of_ble_eq_true rfl) (by decide) rfl ?_
  refine wq_l 1 d59_0 rfl rfl rfl rfl ?_
  refine wq_b 24 4 d59_1 rfl (by decide) rfl (fun c1 => ?_) (fun c1 => ?_)
  · -- pc 24
    refine wq_rv d59_24 ?_
    first | exact hyes c1 c9 | exact hno (Or.inl c1) | exact hno (Or.inr c9)
  · -- pc 4
    refine wq_l 5 d59_4 rfl rfl rfl rfl ?_
    refine wq_l 6 d59_5 rfl rfl rfl rfl ?_
    refine wq_gi (ci := 3) (j := 8) 9 d59_6 rfl rfl rfl rfl ?_
    rw [r7']
    refine wq_b 24 12 d59_9 rfl (by decide) rfl (fun c9 => ?_) (fun c9 => ?_)
    · -- pc 24
      refine wq_rv d59_24 ?_
      first | exact hyes c1 c9 | exact hno (Or.inl c1) | exact hno (Or.inr c9)
    · -- pc 12
      refine wq_l 13 d59_12 rfl rfl rfl rfl ?_
      refine wq_gr (ci := 3) (j := 3) (q := 22) 16 d59_13 rfl rfl rfl rfl ?_
      refine wq_l 17 d59_16 rfl rfl rfl rfl ?_
      refine wq_l 18 d59_17 rfl rfl rfl rfl ?_
      refine wq_gi (ci := 3) (j := 8) 21 d59_18 rfl rfl rfl rfl ?_
      rw [r7']
      refine wq_l 22 d59_21 rfl rfl rfl rfl ?_
      refine wq_a 23 d59_22 rfl rfl ?_
      refine wq_as 24 d59_23 rfl rfl rfl (vp_in_iff.mpr (by simp only [i_lt, i_le, i_eq, ne_eq, Int32.reduceToInt, b2_0, b2_1, decide_eq_true_eq, decide_eq_false_iff_not, Bool.not_eq_true, Bool.not_eq_false] at * <;> omega)) ?_
      refine wq_rv d59_24 ?_
      first | exact hyes c1 c9 | exact hno (Or.inl c1) | exact hno (Or.inr c9)
theorem pk60 {d : Nat} {T : pg_T} {n : Nat} {σ0 σ : pm_S} {c : pg_C} {l s : List pg_N} {Q : Option Value → pm_S → Prop} (hR : pc_R T n σ0 σ c l s) (hQ : ∀ x, ((l ++ s).length ≤ 16386 → x = nI (l ++ s).length) → ¬ x < 0 → Q (some (.int x)) σ) : pm_call pm_Y0 (d + 1) 60 [.ref 3] σ Q := by
  have hB : pc_B T n σ0 σ c (l ++ s) := hR
  obtain ⟨r1, r2, r3, r4, r5, r6, ⟨m, r7, r7'⟩, r8⟩ := hR
  have em := nI_toInt (n := m) (by omega)
  refine wq_m m60 (Nat.le_of_ble_eq_true rfl) (by decide) rfl ?_
  refine wq_l 1 d60_0 rfl rfl rfl rfl ?_
  refine wq_gi (ci := 3) (j := 8) 4 d60_1 rfl rfl rfl rfl ?_
  rw [r7']
  refine wq_ri d60_4 (rfl) ?_
  exact hQ _ (fun h => by have := (r8 h).1; rw [r7'] at this; exact this) (nI_pos (by omega))
theorem pk97 {d : Nat} {T : pg_T} {n : Nat} {σ0 σ : pm_S} {c : pg_C} {l s : List pg_N} {Q : Option Value → pm_S → Prop} (hK : pc_K T n σ0) (hR : pc_R T n σ0 σ c l s) (hl : pg_live T c) (h44 : T.1 c.1 ≠ 44) (hQ : ∀ σ', pc_R T n σ0 σ' (pg_opn c) l s → Q none σ') : pm_call pm_Y0 (d + 2) 97 [.ref 4] σ Q := by
  have hB : pc_B T n σ0 σ c (l ++ s) := hR
  obtain ⟨r1, r2, r3, r4, r5, r6, r7, r8⟩ := hR
  obtain ⟨r6, r6'⟩ := r6 hl
  have eo := nI_toInt (n := c.2.2) (by omega)
  have h1 : c.2.2 < 60 → pc_R T n σ0 (pm_pi σ 4 2 (nI (c.2.2 + 1))) (c.1, c.2.1, c.2.2 + 1) l s := fun h => ⟨pc_pi r1 (by decide), r2, r3, r4, r5, fun _ => ⟨rfl, h⟩, r7, r8⟩
  have h2 : ¬ c.2.2 < 60 → ∀ σ', pc_B T n σ0 σ' (pg_stop c) (l ++ s) → pc_R T n σ0 (pm_pi σ' 4 3 1) (pg_opn c) l s := fun h σ' hs => by
    obtain ⟨s1, s2, s3, s4, s5, s6, s7, s8⟩ := hs
    rw [show pg_opn c = (c.1, 2, c.2.2) from if_neg h]
    refine ⟨pc_pi s1 (by decide), s2, s3, ?_, rfl, fun z => absurd z.1 (by decide : ¬ (2 : Nat) = 0), s7, s8⟩
    show σ'.1 2 10 = nI 46
    rw [s4]
    unfold pg_k
    rw [if_neg (by show (if c.2.1 = 0 then 1 else c.2.1) ≠ 0; rw [if_pos hl.1]; decide)]
  refine wq_m m97 (Nat.le_of_ble_eq_true rfl) (by decide) rfl ?_
  refine wq_l 1 d97_0 rfl rfl rfl rfl ?_
  refine wq_gi (ci := 4) (j := 2) 4 d97_1 rfl rfl rfl rfl ?_
  rw [r6]
  refine wq_k 6 60 d97_4 (by decide) rfl ?_
  refine wq_b 29 9 d97_6 rfl (by decide) rfl (fun c6 => ?_) (fun c6 => ?_)
  · -- pc 29
    have hlt : ¬ c.2.2 < 60 := (by simp only [i_lt, i_le, i_eq, ne_eq, Int32.reduceToInt, b2_0, b2_1, decide_eq_true_eq, decide_eq_false_iff_not, Bool.not_eq_true, Bool.not_eq_false, eo] at * <;> omega)
    refine wq_l 30 d97_29 rfl rfl rfl rfl ?_
    refine wq_k 31 1 d97_30 (by decide) rfl ?_
    refine wq_pf (ci := 4) (j := 3) 34 d97_31 rfl rfl rfl (⟨by decide, by decide⟩) rfl ?_
    refine wq_l 35 d97_34 rfl rfl rfl rfl ?_
    refine wq_gr (ci := 4) (j := 0) (q := 2) 38 d97_35 rfl rfl rfl rfl ?_
    refine wq_v 41 [] d97_38 rfl rfl m50 rfl rfl (Nat.le_of_ble_eq_true rfl) rfl ?_
    refine wq_m m50 (Nat.le_of_ble_eq_true rfl) (by decide) rfl ?_
    refine wq_l 1 d50_0 rfl rfl rfl rfl ?_
    refine wq_k 3 46 d50_1 (by decide) rfl ?_
    refine wq_pf (ci := 2) (j := 10) 6 d50_3 rfl rfl rfl ⟨rfl, rfl⟩ rfl ?_
    refine wq_rv d50_6 ?_
    refine wq_rv d97_41 ?_
    refine hQ _ ?_
    have := h2 hlt _ (pc_st hB)
    refine cast ?_ this
    congr 1
    unfold pm_pi
    refine Prod.ext ?_ rfl
    funext x y
    by_cases q1 : x = 2 <;> by_cases q2 : x = 4 <;> simp [q1, q2]
  · -- pc 9
    refine wq_l 10 d97_9 rfl rfl rfl rfl ?_
    refine wq_a 11 d97_10 rfl rfl ?_
    refine wq_gi (ci := 4) (j := 2) 14 d97_11 rfl rfl rfl rfl ?_
    rw [r6]
    refine wq_k 15 1 d97_14 (by decide) rfl ?_
    refine wq_a 16 d97_15 rfl rfl ?_
    rw [show nI c.2.2 + 1 = nI (c.2.2 + 1) from (nI_succ _).symm]
    have hlt : c.2.2 < 60 := (by simp only [i_lt, i_le, i_eq, ne_eq, Int32.reduceToInt, b2_0, b2_1, decide_eq_true_eq, decide_eq_false_iff_not, Bool.not_eq_true, Bool.not_eq_false, eo] at * <;> omega)
    refine wq_pf (ci := 4) (j := 2) 19 d97_16 rfl rfl rfl ⟨rfl, rfl⟩ rfl ?_
    refine wq_l 20 d97_19 rfl rfl rfl rfl ?_
    refine wq_gr (ci := 4) (j := 0) (q := 2) 23 d97_20 rfl rfl rfl rfl ?_
    refine wq_v 26 [] d97_23 rfl rfl m47 rfl rfl (Nat.le_of_ble_eq_true rfl) rfl (pk47 hK (h1 hlt) hl h44 (fun σ1 hR1 => ?_))
    refine wq_g 41 d97_26 (by decide) ?_
    refine wq_rv d97_41 ?_
    refine hQ _ ?_
    rw [show pg_opn c = pg_stp (c.1, c.2.1, c.2.2 + 1) from by rw [show pg_opn c = (c.1 + 1, c.2.1, c.2.2 + 1) from if_pos hlt]; exact (if_pos hl.1).symm]
    exact hR1
