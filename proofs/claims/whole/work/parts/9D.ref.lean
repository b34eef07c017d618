theorem d239_0 : decode prog_14_method_46_code 0 = .ok (.aload_n 0, 1) := by decide +kernel
theorem d239_1 : decode prog_14_method_46_code 1 = .ok (.sipush 246, 3) := by decide +kernel
theorem d239_4 : decode prog_14_method_46_code 4 = .ok (.invokevirtual 353, 3) := by decide +kernel
theorem d239_7 : decode prog_14_method_46_code 7 = .ok (.ifCond .ne 12, 3) := by decide +kernel
theorem d239_10 : decode prog_14_method_46_code 10 = .ok (.aload_n 0, 1) := by decide +kernel
theorem d239_11 : decode prog_14_method_46_code 11 = .ok (.bipush 6, 2) := by decide +kernel
theorem d239_13 : decode prog_14_method_46_code 13 = .ok (.iload_n 1, 1) := by decide +kernel
theorem d239_14 : decode prog_14_method_46_code 14 = .ok (.iload_n 2, 1) := by decide +kernel
theorem d239_15 : decode prog_14_method_46_code 15 = .ok (.invokevirtual 324, 3) := by decide +kernel
theorem d239_18 : decode prog_14_method_46_code 18 = .ok (.ireturn, 1) := by decide +kernel
theorem d239_19 : decode prog_14_method_46_code 19 = .ok (.aload_n 0, 1) := by decide +kernel
theorem d239_20 : decode prog_14_method_46_code 20 = .ok (.bipush 33, 2) := by decide +kernel
theorem d239_22 : decode prog_14_method_46_code 22 = .ok (.iload_n 1, 1) := by decide +kernel
theorem d239_23 : decode prog_14_method_46_code 23 = .ok (.iload_n 2, 1) := by decide +kernel
theorem d239_24 : decode prog_14_method_46_code 24 = .ok (.invokevirtual 324, 3) := by decide +kernel
theorem d239_27 : decode prog_14_method_46_code 27 = .ok (.istore_n 3, 1) := by decide +kernel
theorem d239_28 : decode prog_14_method_46_code 28 = .ok (.aload_n 0, 1) := by decide +kernel
theorem d239_29 : decode prog_14_method_46_code 29 = .ok (.getfield 151, 3) := by decide +kernel
theorem d239_32 : decode prog_14_method_46_code 32 = .ok (.istore 4, 2) := by decide +kernel
theorem d239_34 : decode prog_14_method_46_code 34 = .ok (.aload_n 0, 1) := by decide +kernel
theorem d239_35 : decode prog_14_method_46_code 35 = .ok (.invokevirtual 356, 3) := by decide +kernel
theorem d239_38 : decode prog_14_method_46_code 38 = .ok (.istore 5, 2) := by decide +kernel
theorem d239_40 : decode prog_14_method_46_code 40 = .ok (.aload_n 0, 1) := by decide +kernel
theorem d239_41 : decode prog_14_method_46_code 41 = .ok (.iload_n 3, 1) := by decide +kernel
theorem d239_42 : decode prog_14_method_46_code 42 = .ok (.bipush 6, 2) := by decide +kernel
theorem d239_44 : decode prog_14_method_46_code 44 = .ok (.iload 4, 2) := by decide +kernel
theorem d239_46 : decode prog_14_method_46_code 46 = .ok (.iload 5, 2) := by decide +kernel
theorem d239_48 : decode prog_14_method_46_code 48 = .ok (.invokevirtual 349, 3) := by decide +kernel
theorem d239_51 : decode prog_14_method_46_code 51 = .ok (.pop, 1) := by decide +kernel
theorem d239_52 : decode prog_14_method_46_code 52 = .ok (.iload_n 3, 1) := by decide +kernel
theorem d239_53 : decode prog_14_method_46_code 53 = .ok (.ireturn, 1) := by decide +kernel
theorem m239 : pm_m 239 = some (⟨"TypeRulesModel", "member", "(II)I"⟩, prog_14_method_46_code, 6, (some FieldType.int), 10, 2, 11) := rfl
theorem d247_0 : decode prog_14_method_50_code 0 = .ok (.aload_n 0, 1) := by decide +kernel
theorem d247_1 : decode prog_14_method_50_code 1 = .ok (.getfield 59, 3) := by decide +kernel
theorem d247_4 : decode prog_14_method_50_code 4 = .ok (.aload_n 0, 1) := by decide +kernel
theorem d247_5 : decode prog_14_method_50_code 5 = .ok (.getfield 385, 3) := by decide +kernel
theorem d247_8 : decode prog_14_method_50_code 8 = .ok (.iload_n 1, 1) := by decide +kernel
theorem d247_9 : decode prog_14_method_50_code 9 = .ok (.iastore, 1) := by decide +kernel
theorem d247_10 : decode prog_14_method_50_code 10 = .ok (.aload_n 0, 1) := by decide +kernel
theorem d247_11 : decode prog_14_method_50_code 11 = .ok (.dup, 1) := by decide +kernel
theorem d247_12 : decode prog_14_method_50_code 12 = .ok (.getfield 385, 3) := by decide +kernel
theorem d247_15 : decode prog_14_method_50_code 15 = .ok (.iconst 1, 1) := by decide +kernel
theorem d247_16 : decode prog_14_method_50_code 16 = .ok (.iadd, 1) := by decide +kernel
theorem d247_17 : decode prog_14_method_50_code 17 = .ok (.putfield 385, 3) := by decide +kernel
theorem d247_20 : decode prog_14_method_50_code 20 = .ok (.return_, 1) := by decide +kernel
theorem m247 : pm_m 247 = some (⟨"TypeRulesModel", "push", "(I)V"⟩, prog_14_method_50_code, 2, none, 10, 1, 11) := rfl
theorem d249_0 : decode prog_14_method_51_code 0 = .ok (.aload_n 0, 1) := by decide +kernel
theorem d249_1 : decode prog_14_method_51_code 1 = .ok (.getfield 62, 3) := by decide +kernel
theorem d249_4 : decode prog_14_method_51_code 4 = .ok (.aload_n 0, 1) := by decide +kernel
theorem d249_5 : decode prog_14_method_51_code 5 = .ok (.getfield 388, 3) := by decide +kernel
theorem d249_8 : decode prog_14_method_51_code 8 = .ok (.iload_n 1, 1) := by decide +kernel
theorem d249_9 : decode prog_14_method_51_code 9 = .ok (.iastore, 1) := by decide +kernel
theorem d249_10 : decode prog_14_method_51_code 10 = .ok (.aload_n 0, 1) := by decide +kernel
theorem d249_11 : decode prog_14_method_51_code 11 = .ok (.dup, 1) := by decide +kernel
theorem d249_12 : decode prog_14_method_51_code 12 = .ok (.getfield 388, 3) := by decide +kernel
theorem d249_15 : decode prog_14_method_51_code 15 = .ok (.iconst 1, 1) := by decide +kernel
theorem d249_16 : decode prog_14_method_51_code 16 = .ok (.iadd, 1) := by decide +kernel
theorem d249_17 : decode prog_14_method_51_code 17 = .ok (.putfield 388, 3) := by decide +kernel
theorem d249_20 : decode prog_14_method_51_code 20 = .ok (.aload_n 0, 1) := by decide +kernel
theorem d249_21 : decode prog_14_method_51_code 21 = .ok (.getfield 385, 3) := by decide +kernel
theorem d249_24 : decode prog_14_method_51_code 24 = .ok (.ifCond .le 105, 3) := by decide +kernel
theorem d249_27 : decode prog_14_method_51_code 27 = .ok (.aload_n 0, 1) := by decide +kernel
theorem d249_28 : decode prog_14_method_51_code 28 = .ok (.getfield 59, 3) := by decide +kernel
theorem d249_31 : decode prog_14_method_51_code 31 = .ok (.aload_n 0, 1) := by decide +kernel
theorem d249_32 : decode prog_14_method_51_code 32 = .ok (.getfield 385, 3) := by decide +kernel
theorem d249_35 : decode prog_14_method_51_code 35 = .ok (.iconst 1, 1) := by decide +kernel
theorem d249_36 : decode prog_14_method_51_code 36 = .ok (.isub, 1) := by decide +kernel
theorem d249_37 : decode prog_14_method_51_code 37 = .ok (.iaload, 1) := by decide +kernel
theorem d249_38 : decode prog_14_method_51_code 38 = .ok (.ifCond .lt 91, 3) := by decide +kernel
theorem d249_41 : decode prog_14_method_51_code 41 = .ok (.aload_n 0, 1) := by decide +kernel
theorem d249_42 : decode prog_14_method_51_code 42 = .ok (.getfield 29, 3) := by decide +kernel
theorem d249_45 : decode prog_14_method_51_code 45 = .ok (.aload_n 0, 1) := by decide +kernel
theorem d249_46 : decode prog_14_method_51_code 46 = .ok (.getfield 59, 3) := by decide +kernel
theorem d249_49 : decode prog_14_method_51_code 49 = .ok (.aload_n 0, 1) := by decide +kernel
theorem d249_50 : decode prog_14_method_51_code 50 = .ok (.getfield 385, 3) := by decide +kernel
theorem d249_53 : decode prog_14_method_51_code 53 = .ok (.iconst 1, 1) := by decide +kernel
theorem d249_54 : decode prog_14_method_51_code 54 = .ok (.isub, 1) := by decide +kernel
theorem d249_55 : decode prog_14_method_51_code 55 = .ok (.iaload, 1) := by decide +kernel
theorem d249_56 : decode prog_14_method_51_code 56 = .ok (.iaload, 1) := by decide +kernel
theorem d249_57 : decode prog_14_method_51_code 57 = .ok (.bipush 36, 2) := by decide +kernel
theorem d249_59 : decode prog_14_method_51_code 59 = .ok (.if_icmp .ne 70, 3) := by decide +kernel
theorem d249_62 : decode prog_14_method_51_code 62 = .ok (.aload_n 0, 1) := by decide +kernel
theorem d249_63 : decode prog_14_method_51_code 63 = .ok (.dup, 1) := by decide +kernel
theorem d249_64 : decode prog_14_method_51_code 64 = .ok (.getfield 385, 3) := by decide +kernel
theorem d249_67 : decode prog_14_method_51_code 67 = .ok (.iconst 1, 1) := by decide +kernel
theorem d249_68 : decode prog_14_method_51_code 68 = .ok (.isub, 1) := by decide +kernel
theorem d249_69 : decode prog_14_method_51_code 69 = .ok (.putfield 385, 3) := by decide +kernel
theorem d249_72 : decode prog_14_method_51_code 72 = .ok (.aload_n 0, 1) := by decide +kernel
theorem d249_73 : decode prog_14_method_51_code 73 = .ok (.dup, 1) := by decide +kernel
theorem d249_74 : decode prog_14_method_51_code 74 = .ok (.getfield 343, 3) := by decide +kernel
theorem d249_77 : decode prog_14_method_51_code 77 = .ok (.iconst 1, 1) := by decide +kernel
theorem d249_78 : decode prog_14_method_51_code 78 = .ok (.isub, 1) := by decide +kernel
theorem d249_79 : decode prog_14_method_51_code 79 = .ok (.putfield 343, 3) := by decide +kernel
theorem d249_82 : decode prog_14_method_51_code 82 = .ok (.aload_n 0, 1) := by decide +kernel
theorem d249_83 : decode prog_14_method_51_code 83 = .ok (.aload_n 0, 1) := by decide +kernel
theorem d249_84 : decode prog_14_method_51_code 84 = .ok (.getfield 59, 3) := by decide +kernel
theorem d249_87 : decode prog_14_method_51_code 87 = .ok (.aload_n 0, 1) := by decide +kernel
theorem d249_88 : decode prog_14_method_51_code 88 = .ok (.getfield 385, 3) := by decide +kernel
theorem d249_91 : decode prog_14_method_51_code 91 = .ok (.iaload, 1) := by decide +kernel
theorem d249_92 : decode prog_14_method_51_code 92 = .ok (.aload_n 0, 1) := by decide +kernel
theorem d249_93 : decode prog_14_method_51_code 93 = .ok (.getfield 62, 3) := by decide +kernel
theorem d249_96 : decode prog_14_method_51_code 96 = .ok (.aload_n 0, 1) := by decide +kernel
theorem d249_97 : decode prog_14_method_51_code 97 = .ok (.getfield 388, 3) := by decide +kernel
theorem d249_100 : decode prog_14_method_51_code 100 = .ok (.iconst 1, 1) := by decide +kernel
theorem d249_101 : decode prog_14_method_51_code 101 = .ok (.isub, 1) := by decide +kernel
theorem d249_102 : decode prog_14_method_51_code 102 = .ok (.iaload, 1) := by decide +kernel
theorem d249_103 : decode prog_14_method_51_code 103 = .ok (.invokevirtual 328, 3) := by decide +kernel
theorem d249_106 : decode prog_14_method_51_code 106 = .ok (.aload_n 0, 1) := by decide +kernel
theorem d249_107 : decode prog_14_method_51_code 107 = .ok (.getfield 62, 3) := by decide +kernel
theorem d249_110 : decode prog_14_method_51_code 110 = .ok (.aload_n 0, 1) := by decide +kernel
theorem d249_111 : decode prog_14_method_51_code 111 = .ok (.getfield 388, 3) := by decide +kernel
theorem d249_114 : decode prog_14_method_51_code 114 = .ok (.iconst 1, 1) := by decide +kernel
theorem d249_115 : decode prog_14_method_51_code 115 = .ok (.isub, 1) := by decide +kernel
theorem d249_116 : decode prog_14_method_51_code 116 = .ok (.aload_n 0, 1) := by decide +kernel
theorem d249_117 : decode prog_14_method_51_code 117 = .ok (.getfield 59, 3) := by decide +kernel
theorem d249_120 : decode prog_14_method_51_code 120 = .ok (.aload_n 0, 1) := by decide +kernel
theorem d249_121 : decode prog_14_method_51_code 121 = .ok (.getfield 385, 3) := by decide +kernel
theorem d249_124 : decode prog_14_method_51_code 124 = .ok (.iaload, 1) := by decide +kernel
theorem d249_125 : decode prog_14_method_51_code 125 = .ok (.iastore, 1) := by decide +kernel
theorem d249_126 : decode prog_14_method_51_code 126 = .ok (.goto (-106), 3) := by decide +kernel
theorem d249_129 : decode prog_14_method_51_code 129 = .ok (.return_, 1) := by decide +kernel
theorem m249 : pm_m 249 = some (⟨"TypeRulesModel", "give", "(I)V"⟩, prog_14_method_51_code, 2, none, 10, 1, 11) := rfl
theorem d253_0 : decode prog_14_method_52_code 0 = .ok (.aload_n 0, 1) := by decide +kernel
theorem d253_1 : decode prog_14_method_52_code 1 = .ok (.getfield 385, 3) := by decide +kernel
theorem d253_4 : decode prog_14_method_52_code 4 = .ok (.ifCond .ne 8, 3) := by decide +kernel
theorem d253_7 : decode prog_14_method_52_code 7 = .ok (.bipush (-2), 2) := by decide +kernel
theorem d253_9 : decode prog_14_method_52_code 9 = .ok (.goto 37, 3) := by decide +kernel
theorem d253_12 : decode prog_14_method_52_code 12 = .ok (.aload_n 0, 1) := by decide +kernel
theorem d253_13 : decode prog_14_method_52_code 13 = .ok (.getfield 59, 3) := by decide +kernel
theorem d253_16 : decode prog_14_method_52_code 16 = .ok (.aload_n 0, 1) := by decide +kernel
theorem d253_17 : decode prog_14_method_52_code 17 = .ok (.getfield 385, 3) := by decide +kernel
theorem d253_20 : decode prog_14_method_52_code 20 = .ok (.iconst 1, 1) := by decide +kernel
theorem d253_21 : decode prog_14_method_52_code 21 = .ok (.isub, 1) := by decide +kernel
theorem d253_22 : decode prog_14_method_52_code 22 = .ok (.iaload, 1) := by decide +kernel
theorem d253_23 : decode prog_14_method_52_code 23 = .ok (.ifCond .ge 7, 3) := by decide +kernel
theorem d253_26 : decode prog_14_method_52_code 26 = .ok (.iconst (-1), 1) := by decide +kernel
theorem d253_27 : decode prog_14_method_52_code 27 = .ok (.goto 19, 3) := by decide +kernel
theorem d253_30 : decode prog_14_method_52_code 30 = .ok (.aload_n 0, 1) := by decide +kernel
theorem d253_31 : decode prog_14_method_52_code 31 = .ok (.getfield 29, 3) := by decide +kernel
theorem d253_34 : decode prog_14_method_52_code 34 = .ok (.aload_n 0, 1) := by decide +kernel
theorem d253_35 : decode prog_14_method_52_code 35 = .ok (.getfield 59, 3) := by decide +kernel
theorem d253_38 : decode prog_14_method_52_code 38 = .ok (.aload_n 0, 1) := by decide +kernel
theorem d253_39 : decode prog_14_method_52_code 39 = .ok (.getfield 385, 3) := by decide +kernel
theorem d253_42 : decode prog_14_method_52_code 42 = .ok (.iconst 1, 1) := by decide +kernel
theorem d253_43 : decode prog_14_method_52_code 43 = .ok (.isub, 1) := by decide +kernel
theorem d253_44 : decode prog_14_method_52_code 44 = .ok (.iaload, 1) := by decide +kernel
theorem d253_45 : decode prog_14_method_52_code 45 = .ok (.iaload, 1) := by decide +kernel
theorem d253_46 : decode prog_14_method_52_code 46 = .ok (.ireturn, 1) := by decide +kernel
theorem m253 : pm_m 253 = some (⟨"TypeRulesModel", "topKind", "()I"⟩, prog_14_method_52_code, 1, (some FieldType.int), 10, 0, 11) := rfl
theorem d254_0 : decode prog_14_method_49_code 0 = .ok (.iload_n 0, 1) := by decide +kernel
theorem d254_1 : decode prog_14_method_49_code 1 = .ok (.iconst 3, 1) := by decide +kernel
theorem d254_2 : decode prog_14_method_49_code 2 = .ok (.if_icmp .ge 9, 3) := by decide +kernel
theorem d254_5 : decode prog_14_method_49_code 5 = .ok (.iload_n 0, 1) := by decide +kernel
theorem d254_6 : decode prog_14_method_49_code 6 = .ok (.iconst 1, 1) := by decide +kernel
theorem d254_7 : decode prog_14_method_49_code 7 = .ok (.iadd, 1) := by decide +kernel
theorem d254_8 : decode prog_14_method_49_code 8 = .ok (.goto 35, 3) := by decide +kernel
theorem d254_11 : decode prog_14_method_49_code 11 = .ok (.iload_n 0, 1) := by decide +kernel
theorem d254_12 : decode prog_14_method_49_code 12 = .ok (.iconst 5, 1) := by decide +kernel
theorem d254_13 : decode prog_14_method_49_code 13 = .ok (.if_icmp .ge 7, 3) := by decide +kernel
theorem d254_16 : decode prog_14_method_49_code 16 = .ok (.iconst 4, 1) := by decide +kernel
theorem d254_17 : decode prog_14_method_49_code 17 = .ok (.goto 26, 3) := by decide +kernel
theorem d254_20 : decode prog_14_method_49_code 20 = .ok (.iload_n 0, 1) := by decide +kernel
theorem d254_21 : decode prog_14_method_49_code 21 = .ok (.bipush 9, 2) := by decide +kernel
theorem d254_23 : decode prog_14_method_49_code 23 = .ok (.if_icmp .ge 7, 3) := by decide +kernel
theorem d254_26 : decode prog_14_method_49_code 26 = .ok (.iconst 5, 1) := by decide +kernel
theorem d254_27 : decode prog_14_method_49_code 27 = .ok (.goto 16, 3) := by decide +kernel
theorem d254_30 : decode prog_14_method_49_code 30 = .ok (.iload_n 0, 1) := by decide +kernel
theorem d254_31 : decode prog_14_method_49_code 31 = .ok (.bipush 11, 2) := by decide +kernel
theorem d254_33 : decode prog_14_method_49_code 33 = .ok (.if_icmp .ge 8, 3) := by decide +kernel
theorem d254_36 : decode prog_14_method_49_code 36 = .ok (.bipush 6, 2) := by decide +kernel
theorem d254_38 : decode prog_14_method_49_code 38 = .ok (.goto 5, 3) := by decide +kernel
theorem d254_41 : decode prog_14_method_49_code 41 = .ok (.bipush 7, 2) := by decide +kernel
theorem d254_43 : decode prog_14_method_49_code 43 = .ok (.ireturn, 1) := by decide +kernel
theorem m254 : pm_m 254 = some (⟨"TypeRulesModel", "strengthOf", "(I)I"⟩, prog_14_method_49_code, 1, (some FieldType.int), 10, 1, 0) := rfl
theorem d252_0 : decode prog_14_method_53_code 0 = .ok (.aload_n 0, 1) := by decide +kernel
theorem d252_1 : decode prog_14_method_53_code 1 = .ok (.invokevirtual 391, 3) := by decide +kernel
theorem d252_4 : decode prog_14_method_53_code 4 = .ok (.bipush 35, 2) := by decide +kernel
theorem d252_6 : decode prog_14_method_53_code 6 = .ok (.if_icmp .ne 123, 3) := by decide +kernel
theorem d252_9 : decode prog_14_method_53_code 9 = .ok (.aload_n 0, 1) := by decide +kernel
theorem d252_10 : decode prog_14_method_53_code 10 = .ok (.getfield 35, 3) := by decide +kernel
theorem d252_13 : decode prog_14_method_53_code 13 = .ok (.aload_n 0, 1) := by decide +kernel
theorem d252_14 : decode prog_14_method_53_code 14 = .ok (.getfield 59, 3) := by decide +kernel
theorem d252_17 : decode prog_14_method_53_code 17 = .ok (.aload_n 0, 1) := by decide +kernel
theorem d252_18 : decode prog_14_method_53_code 18 = .ok (.getfield 385, 3) := by decide +kernel
theorem d252_21 : decode prog_14_method_53_code 21 = .ok (.iconst 1, 1) := by decide +kernel
theorem d252_22 : decode prog_14_method_53_code 22 = .ok (.isub, 1) := by decide +kernel
theorem d252_23 : decode prog_14_method_53_code 23 = .ok (.iaload, 1) := by decide +kernel
theorem d252_24 : decode prog_14_method_53_code 24 = .ok (.iaload, 1) := by decide +kernel
theorem d252_25 : decode prog_14_method_53_code 25 = .ok (.invokestatic 394, 3) := by decide +kernel
theorem d252_28 : decode prog_14_method_53_code 28 = .ok (.iload_n 1, 1) := by decide +kernel
theorem d252_29 : decode prog_14_method_53_code 29 = .ok (.if_icmp .lt 100, 3) := by decide +kernel
theorem d252_32 : decode prog_14_method_53_code 32 = .ok (.aload_n 0, 1) := by decide +kernel
theorem d252_33 : decode prog_14_method_53_code 33 = .ok (.dup, 1) := by decide +kernel
theorem d252_34 : decode prog_14_method_53_code 34 = .ok (.getfield 385, 3) := by decide +kernel
theorem d252_37 : decode prog_14_method_53_code 37 = .ok (.iconst 1, 1) := by decide +kernel
theorem d252_38 : decode prog_14_method_53_code 38 = .ok (.isub, 1) := by decide +kernel
theorem d252_39 : decode prog_14_method_53_code 39 = .ok (.putfield 385, 3) := by decide +kernel
theorem d252_42 : decode prog_14_method_53_code 42 = .ok (.aload_n 0, 1) := by decide +kernel
theorem d252_43 : decode prog_14_method_53_code 43 = .ok (.dup, 1) := by decide +kernel
theorem d252_44 : decode prog_14_method_53_code 44 = .ok (.getfield 388, 3) := by decide +kernel
theorem d252_47 : decode prog_14_method_53_code 47 = .ok (.iconst 2, 1) := by decide +kernel
theorem d252_48 : decode prog_14_method_53_code 48 = .ok (.isub, 1) := by decide +kernel
theorem d252_49 : decode prog_14_method_53_code 49 = .ok (.putfield 388, 3) := by decide +kernel
theorem d252_52 : decode prog_14_method_53_code 52 = .ok (.aload_n 0, 1) := by decide +kernel
theorem d252_53 : decode prog_14_method_53_code 53 = .ok (.aload_n 0, 1) := by decide +kernel
theorem d252_54 : decode prog_14_method_53_code 54 = .ok (.getfield 59, 3) := by decide +kernel
theorem d252_57 : decode prog_14_method_53_code 57 = .ok (.aload_n 0, 1) := by decide +kernel
theorem d252_58 : decode prog_14_method_53_code 58 = .ok (.getfield 385, 3) := by decide +kernel
theorem d252_61 : decode prog_14_method_53_code 61 = .ok (.iaload, 1) := by decide +kernel
theorem d252_62 : decode prog_14_method_53_code 62 = .ok (.aload_n 0, 1) := by decide +kernel
theorem d252_63 : decode prog_14_method_53_code 63 = .ok (.getfield 62, 3) := by decide +kernel
theorem d252_66 : decode prog_14_method_53_code 66 = .ok (.aload_n 0, 1) := by decide +kernel
theorem d252_67 : decode prog_14_method_53_code 67 = .ok (.getfield 388, 3) := by decide +kernel
theorem d252_70 : decode prog_14_method_53_code 70 = .ok (.iaload, 1) := by decide +kernel
theorem d252_71 : decode prog_14_method_53_code 71 = .ok (.invokevirtual 328, 3) := by decide +kernel
theorem d252_74 : decode prog_14_method_53_code 74 = .ok (.aload_n 0, 1) := by decide +kernel
theorem d252_75 : decode prog_14_method_53_code 75 = .ok (.aload_n 0, 1) := by decide +kernel
theorem d252_76 : decode prog_14_method_53_code 76 = .ok (.getfield 59, 3) := by decide +kernel
theorem d252_79 : decode prog_14_method_53_code 79 = .ok (.aload_n 0, 1) := by decide +kernel
theorem d252_80 : decode prog_14_method_53_code 80 = .ok (.getfield 385, 3) := by decide +kernel
theorem d252_83 : decode prog_14_method_53_code 83 = .ok (.iaload, 1) := by decide +kernel
theorem d252_84 : decode prog_14_method_53_code 84 = .ok (.aload_n 0, 1) := by decide +kernel
theorem d252_85 : decode prog_14_method_53_code 85 = .ok (.getfield 62, 3) := by decide +kernel
theorem d252_88 : decode prog_14_method_53_code 88 = .ok (.aload_n 0, 1) := by decide +kernel
theorem d252_89 : decode prog_14_method_53_code 89 = .ok (.getfield 388, 3) := by decide +kernel
theorem d252_92 : decode prog_14_method_53_code 92 = .ok (.iconst 1, 1) := by decide +kernel
theorem d252_93 : decode prog_14_method_53_code 93 = .ok (.iadd, 1) := by decide +kernel
theorem d252_94 : decode prog_14_method_53_code 94 = .ok (.iaload, 1) := by decide +kernel
theorem d252_95 : decode prog_14_method_53_code 95 = .ok (.invokevirtual 328, 3) := by decide +kernel
theorem d252_98 : decode prog_14_method_53_code 98 = .ok (.aload_n 0, 1) := by decide +kernel
theorem d252_99 : decode prog_14_method_53_code 99 = .ok (.getfield 62, 3) := by decide +kernel
theorem d252_102 : decode prog_14_method_53_code 102 = .ok (.aload_n 0, 1) := by decide +kernel
theorem d252_103 : decode prog_14_method_53_code 103 = .ok (.getfield 388, 3) := by decide +kernel
theorem d252_106 : decode prog_14_method_53_code 106 = .ok (.aload_n 0, 1) := by decide +kernel
theorem d252_107 : decode prog_14_method_53_code 107 = .ok (.getfield 59, 3) := by decide +kernel
theorem d252_110 : decode prog_14_method_53_code 110 = .ok (.aload_n 0, 1) := by decide +kernel
theorem d252_111 : decode prog_14_method_53_code 111 = .ok (.getfield 385, 3) := by decide +kernel
theorem d252_114 : decode prog_14_method_53_code 114 = .ok (.iaload, 1) := by decide +kernel
theorem d252_115 : decode prog_14_method_53_code 115 = .ok (.iastore, 1) := by decide +kernel
theorem d252_116 : decode prog_14_method_53_code 116 = .ok (.aload_n 0, 1) := by decide +kernel
theorem d252_117 : decode prog_14_method_53_code 117 = .ok (.dup, 1) := by decide +kernel
theorem d252_118 : decode prog_14_method_53_code 118 = .ok (.getfield 388, 3) := by decide +kernel
theorem d252_121 : decode prog_14_method_53_code 121 = .ok (.iconst 1, 1) := by decide +kernel
theorem d252_122 : decode prog_14_method_53_code 122 = .ok (.iadd, 1) := by decide +kernel
theorem d252_123 : decode prog_14_method_53_code 123 = .ok (.putfield 388, 3) := by decide +kernel
theorem d252_126 : decode prog_14_method_53_code 126 = .ok (.goto (-126), 3) := by decide +kernel
theorem d252_129 : decode prog_14_method_53_code 129 = .ok (.return_, 1) := by decide +kernel
theorem m252 : pm_m 252 = some (⟨"TypeRulesModel", "settle", "(I)V"⟩, prog_14_method_53_code, 2, none, 10, 1, 11) := rfl
theorem d251_0 : decode prog_14_method_47_code 0 = .ok (.iload_n 0, 1) := by decide +kernel
theorem d251_1 : decode prog_14_method_47_code 1 = .ok (.lookupswitch 147 #[(130, 131), (131, 133), (132, 135), (133, 144), (238, 135), (242, 144), (243, 141), (245, 141), (247, 144), (260, 139), (261, 137), (262, 139), (402, 139), (403, 139), (404, 137)], 131) := by decide +kernel
theorem d251_132 : decode prog_14_method_47_code 132 = .ok (.iconst 1, 1) := by decide +kernel
theorem d251_133 : decode prog_14_method_47_code 133 = .ok (.ireturn, 1) := by decide +kernel
theorem d251_134 : decode prog_14_method_47_code 134 = .ok (.iconst 2, 1) := by decide +kernel
theorem d251_135 : decode prog_14_method_47_code 135 = .ok (.ireturn, 1) := by decide +kernel
theorem d251_136 : decode prog_14_method_47_code 136 = .ok (.iconst 3, 1) := by decide +kernel
theorem d251_137 : decode prog_14_method_47_code 137 = .ok (.ireturn, 1) := by decide +kernel
theorem d251_138 : decode prog_14_method_47_code 138 = .ok (.iconst 4, 1) := by decide +kernel
theorem d251_139 : decode prog_14_method_47_code 139 = .ok (.ireturn, 1) := by decide +kernel
theorem d251_140 : decode prog_14_method_47_code 140 = .ok (.iconst 5, 1) := by decide +kernel
theorem d251_141 : decode prog_14_method_47_code 141 = .ok (.ireturn, 1) := by decide +kernel
theorem d251_142 : decode prog_14_method_47_code 142 = .ok (.bipush 6, 2) := by decide +kernel
theorem d251_144 : decode prog_14_method_47_code 144 = .ok (.ireturn, 1) := by decide +kernel
theorem d251_145 : decode prog_14_method_47_code 145 = .ok (.bipush 7, 2) := by decide +kernel
theorem d251_147 : decode prog_14_method_47_code 147 = .ok (.ireturn, 1) := by decide +kernel
theorem d251_148 : decode prog_14_method_47_code 148 = .ok (.iconst 0, 1) := by decide +kernel
theorem d251_149 : decode prog_14_method_47_code 149 = .ok (.ireturn, 1) := by decide +kernel
theorem m251 : pm_m 251 = some (⟨"TypeRulesModel", "strength", "(I)I"⟩, prog_14_method_47_code, 1, (some FieldType.int), 10, 1, 0) := rfl
theorem d255_0 : decode prog_14_method_48_code 0 = .ok (.iload_n 0, 1) := by decide +kernel
theorem d255_1 : decode prog_14_method_48_code 1 = .ok (.lookupswitch 156 #[(130, 123), (131, 125), (132, 127), (238, 127), (242, 150), (243, 144), (245, 147), (247, 153), (260, 133), (261, 129), (262, 135), (402, 138), (403, 141), (404, 131)], 123) := by decide +kernel
theorem d255_124 : decode prog_14_method_48_code 124 = .ok (.iconst 0, 1) := by decide +kernel
theorem d255_125 : decode prog_14_method_48_code 125 = .ok (.ireturn, 1) := by decide +kernel
theorem d255_126 : decode prog_14_method_48_code 126 = .ok (.iconst 1, 1) := by decide +kernel
theorem d255_127 : decode prog_14_method_48_code 127 = .ok (.ireturn, 1) := by decide +kernel
theorem d255_128 : decode prog_14_method_48_code 128 = .ok (.iconst 2, 1) := by decide +kernel
theorem d255_129 : decode prog_14_method_48_code 129 = .ok (.ireturn, 1) := by decide +kernel
theorem d255_130 : decode prog_14_method_48_code 130 = .ok (.iconst 3, 1) := by decide +kernel
theorem d255_131 : decode prog_14_method_48_code 131 = .ok (.ireturn, 1) := by decide +kernel
theorem d255_132 : decode prog_14_method_48_code 132 = .ok (.iconst 4, 1) := by decide +kernel
theorem d255_133 : decode prog_14_method_48_code 133 = .ok (.ireturn, 1) := by decide +kernel
theorem d255_134 : decode prog_14_method_48_code 134 = .ok (.iconst 5, 1) := by decide +kernel
theorem d255_135 : decode prog_14_method_48_code 135 = .ok (.ireturn, 1) := by decide +kernel
theorem d255_136 : decode prog_14_method_48_code 136 = .ok (.bipush 6, 2) := by decide +kernel
theorem d255_138 : decode prog_14_method_48_code 138 = .ok (.ireturn, 1) := by decide +kernel
theorem d255_139 : decode prog_14_method_48_code 139 = .ok (.bipush 7, 2) := by decide +kernel
theorem d255_141 : decode prog_14_method_48_code 141 = .ok (.ireturn, 1) := by decide +kernel
theorem d255_142 : decode prog_14_method_48_code 142 = .ok (.bipush 8, 2) := by decide +kernel
theorem d255_144 : decode prog_14_method_48_code 144 = .ok (.ireturn, 1) := by decide +kernel
theorem d255_145 : decode prog_14_method_48_code 145 = .ok (.bipush 9, 2) := by decide +kernel
theorem d255_147 : decode prog_14_method_48_code 147 = .ok (.ireturn, 1) := by decide +kernel
theorem d255_148 : decode prog_14_method_48_code 148 = .ok (.bipush 10, 2) := by decide +kernel
theorem d255_150 : decode prog_14_method_48_code 150 = .ok (.ireturn, 1) := by decide +kernel
theorem d255_151 : decode prog_14_method_48_code 151 = .ok (.bipush 11, 2) := by decide +kernel
theorem d255_153 : decode prog_14_method_48_code 153 = .ok (.ireturn, 1) := by decide +kernel
theorem d255_154 : decode prog_14_method_48_code 154 = .ok (.bipush 12, 2) := by decide +kernel
theorem d255_156 : decode prog_14_method_48_code 156 = .ok (.ireturn, 1) := by decide +kernel
theorem d255_157 : decode prog_14_method_48_code 157 = .ok (.bipush 13, 2) := by decide +kernel
theorem d255_159 : decode prog_14_method_48_code 159 = .ok (.ireturn, 1) := by decide +kernel
theorem m255 : pm_m 255 = some (⟨"TypeRulesModel", "operation", "(I)I"⟩, prog_14_method_48_code, 1, (some FieldType.int), 10, 1, 0) := rfl
/-! EXPRESSIONS of the reference -/
theorem rp_mk2 {d : Nat} {σ : pm_S} {Q : Option Value → pm_S → Prop} {t : Nat → Nat} {M n : Nat} {c : pg_C} {h : rp_H} {s : Nat} {x y z : Int32} (hN : rp_n t M n) (hs : s ≤ 3000) (hS : rp_S t M n σ c h s) (hQ : ∀ σ', rp_S t M n σ' c (rp_nw h) (s + 1) → rp_M σ h.1 σ' x y z → xe_f σ σ' → Q (some (.int (nI h.1))) σ') : pm_call pm_Y0 (d + 1) 202 [.ref 10, .int x, .int y, .int z] σ Q := by
  have hlt := rp_lt hN hS hs
  refine sp202 hS.2.1.1 hlt (hQ _ ⟨rp_Tm hS.1 (fun b hb => ?_) rfl (fun k hk => ?_), rh_mk hS.2.1 hlt, by have := hS.2.2; show h.1 + 1 ≤ _; omega⟩ rp_Kn ⟨⟨rm_r1 10 (by omega), rm_r1 10 (by omega), rm_r1 10 (by omega)⟩, rm_rk (by omega), rm_rk (by omega)⟩)
  · exact rm_r1 10 (by omega)
  · exact rm_rk (by omega)
theorem rp_mkin2 {d : Nat} {σ : pm_S} {Q : Option Value → pm_S → Prop} {t : Nat → Nat} {M n : Nat} {c : pg_C} {h : rp_H} {s : Nat} {x y z : Int32} {to : Nat} (hN : rp_n t M n) (hs : s ≤ 3000) (ht : to < h.1) (hS : rp_S t M n σ c h s) (hQ : ∀ σ', rp_S t M n σ' c (rp_in h to) (s + 1) → rp_M σ h.1 σ' x y z → xe_f σ σ' → Q (some (.int (nI h.1))) σ') : pm_call pm_Y0 (d + 2) 226 [.ref 10, .int (nI to), .int x, .int y, .int z] σ Q := by
  refine wq_m m226 (Nat.le_of_ble_eq_true rfl) (by decide) rfl ?_
  refine wq_l 1 d226_0 rfl rfl rfl rfl ?_
  refine wq_l 2 d226_1 rfl rfl rfl rfl ?_
  refine wq_l 3 d226_2 rfl rfl rfl rfl ?_
  refine wq_l 5 d226_3 rfl rfl rfl rfl ?_
  refine wq_v 8 [_, _, _] d226_5 rfl rfl m202 rfl rfl (Nat.le_of_ble_eq_true rfl) rfl (rp_mk2 hN hs hS (fun σ1 h1 m1 x1 => ?_))
  refine wq_s 10 d226_8 rfl rfl (Nat.le_of_ble_eq_true rfl) rfl rfl ?_
  refine wq_l 11 d226_10 rfl rfl rfl rfl ?_
  refine wq_l 12 d226_11 rfl rfl rfl rfl ?_
  refine wq_l 14 d226_12 rfl rfl rfl rfl ?_
  refine wq_v 17 [_, _] d226_14 rfl rfl m227 rfl rfl (Nat.le_of_ble_eq_true rfl) rfl (rp_add h1 (Nat.lt_succ_of_lt ht) (Nat.lt_succ_self _) (rp_fn hS.2.1) (fun σ2 h2 f2 => ?_))
  refine wq_l 19 d226_17 rfl rfl rfl rfl ?_
  refine wq_ri d226_19 (rfl) ?_
  exact hQ _ h2 (rp_Fm m1 f2) (xe_ft x1 (xe_fa f2))
theorem rp_Kq {t : Nat → Nat} {M n : Nat} {σ σ1 σ2 : pm_S} {h h2 : rp_H} {e : Nat} {l : List pg_N} (k : rp_K σ σ1) (o : rp_Oq t M n σ1 h σ2 h2 e l) : rp_Oq t M n σ h σ2 h2 e l := by
  obtain ⟨a, b, c, d, d', L, e1, e2, ⟨f1, f2, f3, f4, f5, f6⟩, f7⟩ := o
  have e49 := (k.1.2.2 49).resolve_left (by omega)
  exact ⟨rp_Wt (rp_Wk rp_Wr k) a, b, c, fun a ha q hq => d a ha q (rp_Kh k hq), fun a ha => by rw [← e49]; exact d' a ha, L, e1, e2, ⟨f1, f2, fun a ha q hq => f3 a ha q ⟨by rw [e49]; exact hq.1, fun w => rp_Kh k (hq.2 (k.2 w))⟩, f4, f5, f6⟩, f7⟩
/-- a name, or one of an instance -/
def rp_nml (T : pg_T) (p : Nat) (v : Int32) (c : pg_C) : List pg_N := if pg_is T 59 c = true then [(33, p, v, 2), (6, pg_pl T (pg_stp c), pg_v T (pg_stp c), 1)] else [(6, p, v, 1)]
def rp_nmc (T : pg_T) (c : pg_C) : pg_C := if pg_is T 59 c = true then pg_exp T 41 (pg_stp c) else c
theorem rp239 {d : Nat} {σ : pm_S} {Q : Option Value → pm_S → Prop} {t : Nat → Nat} {M n : Nat} {c : pg_C} {h : rp_H} {s p : Nat} {y z v : Int32} (hN : rp_n t M n) (hs : s ≤ 2900) (hS : rp_S t M n σ c h s) (hy : σ.1 10 6 = 0 → y = nI p ∧ rp_V t M n 6 z v ∧ rp_V t M n 33 z v) (hQ : ∀ σ' h' e, rp_S t M n σ' (rp_nmc (pt_T t M n) c) h' (s + 2) → rp_Oq t M n σ h σ' h' e (rp_nml (pt_T t M n) p v c) → xe_f σ σ' → h'.1 ≤ h.1 + 2 → Q (some (.int (nI e))) σ') : pm_call pm_Y0 (d + 9) 239 [.ref 10, .int y, .int z] σ Q := by
  refine wq_m m239 (Nat.le_of_ble_eq_true rfl) (by decide) rfl ?_
  refine wq_l 1 d239_0 rfl rfl rfl rfl ?_
  refine wq_k 4 246 d239_1 (by decide) rfl ?_
  refine wq_v 7 [_] d239_4 rfl rfl m233 rfl rfl (Nat.le_of_ble_eq_true rfl) rfl (rp_take (k := 59) hN (by decide) (by decide) hS (fun σ1 h1 k1 => ?_))
  refine wq_b 19 10 d239_7 rfl (by decide) rfl (fun c7 => ?_) (fun c7 => ?_)
  · -- pc 19
    have f := b2n c7
    rw [f] at h1
    refine wq_l 20 d239_19 rfl rfl rfl rfl ?_
    refine wq_k 22 33 d239_20 (by decide) rfl ?_
    refine wq_l 23 d239_22 rfl rfl rfl rfl ?_
    refine wq_l 24 d239_23 rfl rfl rfl rfl ?_
    refine wq_v 27 [_, _, _] d239_24 rfl rfl m202 rfl rfl (Nat.le_of_ble_eq_true rfl) rfl (rp_mk2 hN (by omega) h1 (fun σ2 h2 m2 x2 => ?_))
    refine wq_s 28 d239_27 rfl rfl (Nat.le_of_ble_eq_true rfl) rfl rfl ?_
    refine wq_l 29 d239_28 rfl rfl rfl rfl ?_
    refine wq_gi (ci := 10) (j := 4) 32 d239_29 rfl rfl rfl rfl ?_
    refine wq_s 34 d239_32 rfl rfl (Nat.le_of_ble_eq_true rfl) rfl rfl ?_
    refine wq_l 35 d239_34 rfl rfl rfl rfl ?_
    refine wq_v 38 [] d239_35 rfl rfl m228 rfl rfl (Nat.le_of_ble_eq_true rfl) rfl (rp_wn hN h2 (fun σ3 h3 k3 => ?_))
    refine wq_s 40 d239_38 rfl rfl (Nat.le_of_ble_eq_true rfl) rfl rfl ?_
    refine wq_l 41 d239_40 rfl rfl rfl rfl ?_
    refine wq_l 42 d239_41 rfl rfl rfl rfl ?_
    refine wq_k 44 6 d239_42 (by decide) rfl ?_
    refine wq_l 46 d239_44 rfl rfl rfl rfl ?_
    refine wq_l 48 d239_46 rfl rfl rfl rfl ?_
    refine wq_v 51 [_, _, _, _] d239_48 rfl rfl m226 rfl rfl (Nat.le_of_ble_eq_true rfl) rfl (rp_mkin2 (to := h.1) hN (by omega) rp_lw h3 (fun σ4 h4 m4 x4 => ?_))
    refine wq_a 52 d239_51 rfl rfl ?_
    refine wq_l 53 d239_52 rfl rfl rfl rfl ?_
    refine wq_ri d239_53 (rfl) ?_
    refine hQ _ _ _ (rp_Se h4 (by unfold rp_nmc; rw [f]; rfl) (by omega)) ?_ (xe_ft (xe_ft (xe_ft (xe_fk k1) x2) (xe_fk k3)) x4) (Nat.le_refl _)
    rw [show rp_nml (pt_T t M n) p v c = [(33, p, v, 2), (6, pg_pl (pt_T t M n) (pg_stp c), pg_v (pt_T t M n) (pg_stp c), 1)] by unfold rp_nml; rw [f]; rfl]
    exact rp_Kq k1 (rp_Oq2 h1.2.1 m2 k3 m4 (fun w => ⟨(hy (k1.2 (m2.2.1 (k3.2 (m4.2.1 w))))).1, (hy (k1.2 (m2.2.1 (k3.2 (m4.2.1 w))))).2.2⟩) (fun w => ⟨rp_pl h2 (k3.2 (m4.2.1 w)), rp_nm (by decide) h2 h3 (m4.2.1 w)⟩))
  · -- pc 10
    have f := b2y c7
    rw [f] at h1
    refine wq_l 11 d239_10 rfl rfl rfl rfl ?_
    refine wq_k 13 6 d239_11 (by decide) rfl ?_
    refine wq_l 14 d239_13 rfl rfl rfl rfl ?_
    refine wq_l 15 d239_14 rfl rfl rfl rfl ?_
    refine wq_v 18 [_, _, _] d239_15 rfl rfl m202 rfl rfl (Nat.le_of_ble_eq_true rfl) rfl (rp_mk2 hN (by omega) h1 (fun σ2 h2 m2 x2 => ?_))
    refine wq_ri d239_18 (rfl) ?_
    refine hQ _ _ _ (rp_Se h2 (by unfold rp_nmc; rw [f]; rfl) (by omega)) ?_ (xe_ft (xe_fk k1) x2) (Nat.le_succ _)
    rw [show rp_nml (pt_T t M n) p v c = [(6, p, v, 1)] by unfold rp_nml; rw [f]; rfl]
    exact rp_Kq k1 (rp_Oq1 h1.2.1 m2 (fun w => ⟨(hy (k1.2 (m2.2.1 w))).1, (hy (k1.2 (m2.2.1 w))).2.1⟩))
theorem sp247 {d : Nat} {σ : pm_S} {Q : Option Value → pm_S → Prop} {k : Nat} {x : Int32} (h27 : σ.1 10 27 = nI k) (hk : k < 400) (hQ : Q none (pm_pi (pm_pr σ 59 (upd (σ.2.2 59) k x)) 10 27 (nI (k + 1)))) : pm_call pm_Y0 (d + 1) 247 [.ref 10, .int x] σ Q := by
  have ek := nI_toInt (n := k) (by omega)
  have ck := nI_clamp (n := k) (by omega)
  refine wq_m m247 (Nat.le_of_ble_eq_true rfl) (by decide) rfl ?_
  refine wq_l 1 d247_0 rfl rfl rfl rfl ?_
  refine wq_gr (ci := 10) (j := 26) (q := 59) 4 d247_1 rfl rfl rfl rfl ?_
  refine wq_l 5 d247_4 rfl rfl rfl rfl ?_
  refine wq_gi (ci := 10) (j := 27) 8 d247_5 rfl rfl rfl rfl ?_
  first | rw [h27] | simp only [pm_r1r, h27]
  refine wq_l 9 d247_8 rfl rfl rfl rfl ?_
  refine wq_as 10 d247_9 rfl rfl rfl (vp_in_iff.mpr (by simp only [i_lt, i_le, i_eq, ne_eq, Int32.reduceToInt, b2_0, b2_1, decide_eq_true_eq, decide_eq_false_iff_not, Bool.not_eq_true, Bool.not_eq_false, ek] at * <;> omega)) ?_
  rw [ck]
  refine wq_l 11 d247_10 rfl rfl rfl rfl ?_
  refine wq_a 12 d247_11 rfl rfl ?_
  refine wq_gi (ci := 10) (j := 27) 15 d247_12 rfl rfl rfl rfl ?_
  first | rw [h27] | simp only [pm_r1r, h27]
  refine wq_k 16 1 d247_15 (by decide) rfl ?_
  refine wq_a 17 d247_16 rfl rfl ?_
  rw [show nI k + 1 = nI (k + 1) from (nI_succ k).symm]
  refine wq_pf (ci := 10) (j := 27) 20 d247_17 rfl rfl rfl ⟨rfl, rfl⟩ rfl ?_
  refine wq_rv d247_20 ?_
  exact hQ
theorem sp254 {d : Nat} {σ : pm_S} {Q : Option Value → pm_S → Prop} {g : Nat} (hg : g ≤ 13) (hQ : Q (some (.int (nI (pg_bind g + 1)))) σ) : pm_call pm_Y0 (d + 1) 254 [.int (nI g)] σ Q := by
  have eg := nI_toInt (n := g) (by omega)
  have h1 : g < 3 → Q (some (.int (nI g + 1))) σ := fun q => by rw [show pg_bind g = g from if_pos q, nI_succ] at hQ; exact hQ
  have h2 : ¬ g < 3 → g < 5 → Q (some (.int 4)) σ := fun q q2 => by rw [show pg_bind g = 3 from (if_neg q).trans (if_pos q2)] at hQ; exact hQ
  have h3 : ¬ g < 3 → ¬ g < 5 → g < 9 → Q (some (.int 5)) σ := fun q q2 q3 => by rw [show pg_bind g = 4 from (if_neg q).trans ((if_neg q2).trans (if_pos q3))] at hQ; exact hQ
  have h4 : ¬ g < 3 → ¬ g < 5 → ¬ g < 9 → g < 11 → Q (some (.int 6)) σ := fun q q2 q3 q4 => by rw [show pg_bind g = 5 from (if_neg q).trans ((if_neg q2).trans ((if_neg q3).trans (if_pos q4)))] at hQ; exact hQ
  have h5 : ¬ g < 3 → ¬ g < 5 → ¬ g < 9 → ¬ g < 11 → Q (some (.int 7)) σ := fun q q2 q3 q4 => by rw [show pg_bind g = 6 from (if_neg q).trans ((if_neg q2).trans ((if_neg q3).trans (if_neg q4)))] at hQ; exact hQ
  clear hQ
  refine wq_m m254 (Nat.le_of_ble_eq_true rfl) (by decide) rfl ?_
  refine wq_l 1 d254_0 rfl rfl rfl rfl ?_
  refine wq_k 2 3 d254_1 (by decide) rfl ?_
  refine wq_b 11 5 d254_2 rfl (by decide) rfl (fun c2 => ?_) (fun c2 => ?_)
  · -- pc 11
    refine wq_l 12 d254_11 rfl rfl rfl rfl ?_
    refine wq_k 13 5 d254_12 (by decide) rfl ?_
    refine wq_b 20 16 d254_13 rfl (by decide) rfl (fun c13 => ?_) (fun c13 => ?_)
    · -- pc 20
      refine wq_l 21 d254_20 rfl rfl rfl rfl ?_
      refine wq_k 23 9 d254_21 (by decide) rfl ?_
      refine wq_b 30 26 d254_23 rfl (by decide) rfl (fun c23 => ?_) (fun c23 => ?_)
      · -- pc 30
        refine wq_l 31 d254_30 rfl rfl rfl rfl ?_
        refine wq_k 33 11 d254_31 (by decide) rfl ?_
        refine wq_b 41 36 d254_33 rfl (by decide) rfl (fun c33 => ?_) (fun c33 => ?_)
        · -- pc 41
          refine wq_k 43 7 d254_41 (by decide) rfl ?_
          refine wq_ri d254_43 (rfl) ?_
          first | exact h1 (by simp only [i_lt, i_le, i_eq, ne_eq, Int32.reduceToInt, b2_0, b2_1, decide_eq_true_eq, decide_eq_false_iff_not, Bool.not_eq_true, Bool.not_eq_false, eg] at * <;> omega) | exact h2 (by simp only [i_lt, i_le, i_eq, ne_eq, Int32.reduceToInt, b2_0, b2_1, decide_eq_true_eq, decide_eq_false_iff_not, Bool.not_eq_true, Bool.not_eq_false, eg] at * <;> omega) (by simp only [i_lt, i_le, i_eq, ne_eq, Int32.reduceToInt, b2_0, b2_1, decide_eq_true_eq, decide_eq_false_iff_not, Bool.not_eq_true, Bool.not_eq_false, eg] at * <;> omega) | exact h3 (by simp only [i_lt, i_le, i_eq, ne_eq, Int32.reduceToInt, b2_0, b2_1, decide_eq_true_eq, decide_eq_false_iff_not, Bool.not_eq_true, Bool.not_eq_false, eg] at * <;> omega) (by simp only [i_lt, i_le, i_eq, ne_eq, Int32.reduceToInt, b2_0, b2_1, decide_eq_true_eq, decide_eq_false_iff_not, Bool.not_eq_true, Bool.not_eq_false, eg] at * <;> omega) (by simp only [i_lt, i_le, i_eq, ne_eq, Int32.reduceToInt, b2_0, b2_1, decide_eq_true_eq, decide_eq_false_iff_not, Bool.not_eq_true, Bool.not_eq_false, eg] at * <;> omega) | exact h4 (by simp only [i_lt, i_le, i_eq, ne_eq, Int32.reduceToInt, b2_0, b2_1, decide_eq_true_eq, decide_eq_false_iff_not, Bool.not_eq_true, Bool.not_eq_false, eg] at * <;> omega) (by simp only [i_lt, i_le, i_eq, ne_eq, Int32.reduceToInt, b2_0, b2_1, decide_eq_true_eq, decide_eq_false_iff_not, Bool.not_eq_true, Bool.not_eq_false, eg] at * <;> omega) (by simp only [i_lt, i_le, i_eq, ne_eq, Int32.reduceToInt, b2_0, b2_1, decide_eq_true_eq, decide_eq_false_iff_not, Bool.not_eq_true, Bool.not_eq_false, eg] at * <;> omega) (by simp only [i_lt, i_le, i_eq, ne_eq, Int32.reduceToInt, b2_0, b2_1, decide_eq_true_eq, decide_eq_false_iff_not, Bool.not_eq_true, Bool.not_eq_false, eg] at * <;> omega) | exact h5 (by simp only [i_lt, i_le, i_eq, ne_eq, Int32.reduceToInt, b2_0, b2_1, decide_eq_true_eq, decide_eq_false_iff_not, Bool.not_eq_true, Bool.not_eq_false, eg] at * <;> omega) (by simp only [i_lt, i_le, i_eq, ne_eq, Int32.reduceToInt, b2_0, b2_1, decide_eq_true_eq, decide_eq_false_iff_not, Bool.not_eq_true, Bool.not_eq_false, eg] at * <;> omega) (by simp only [i_lt, i_le, i_eq, ne_eq, Int32.reduceToInt, b2_0, b2_1, decide_eq_true_eq, decide_eq_false_iff_not, Bool.not_eq_true, Bool.not_eq_false, eg] at * <;> omega) (by simp only [i_lt, i_le, i_eq, ne_eq, Int32.reduceToInt, b2_0, b2_1, decide_eq_true_eq, decide_eq_false_iff_not, Bool.not_eq_true, Bool.not_eq_false, eg] at * <;> omega)
        · -- pc 36
          refine wq_k 38 6 d254_36 (by decide) rfl ?_
          refine wq_g 43 d254_38 (by decide) ?_
          refine wq_ri d254_43 (rfl) ?_
          first | exact h1 (by simp only [i_lt, i_le, i_eq, ne_eq, Int32.reduceToInt, b2_0, b2_1, decide_eq_true_eq, decide_eq_false_iff_not, Bool.not_eq_true, Bool.not_eq_false, eg] at * <;> omega) | exact h2 (by simp only [i_lt, i_le, i_eq, ne_eq, Int32.reduceToInt, b2_0, b2_1, decide_eq_true_eq, decide_eq_false_iff_not, Bool.not_eq_true, Bool.not_eq_false, eg] at * <;> omega) (by simp only [i_lt, i_le, i_eq, ne_eq, Int32.reduceToInt, b2_0, b2_1, decide_eq_true_eq, decide_eq_false_iff_not, Bool.not_eq_true, Bool.not_eq_false, eg] at * <;> omega) | exact h3 (by simp only [i_lt, i_le, i_eq, ne_eq, Int32.reduceToInt, b2_0, b2_1, decide_eq_true_eq, decide_eq_false_iff_not, Bool.not_eq_true, Bool.not_eq_false, eg] at * <;> omega) (by simp only [i_lt, i_le, i_eq, ne_eq, Int32.reduceToInt, b2_0, b2_1, decide_eq_true_eq, decide_eq_false_iff_not, Bool.not_eq_true, Bool.not_eq_false, eg] at * <;> omega) (by simp only [i_lt, i_le, i_eq, ne_eq, Int32.reduceToInt, b2_0, b2_1, decide_eq_true_eq, decide_eq_false_iff_not, Bool.not_eq_true, Bool.not_eq_false, eg] at * <;> omega) | exact h4 (by simp only [i_lt, i_le, i_eq, ne_eq, Int32.reduceToInt, b2_0, b2_1, decide_eq_true_eq, decide_eq_false_iff_not, Bool.not_eq_true, Bool.not_eq_false, eg] at * <;> omega) (by simp only [i_lt, i_le, i_eq, ne_eq, Int32.reduceToInt, b2_0, b2_1, decide_eq_true_eq, decide_eq_false_iff_not, Bool.not_eq_true, Bool.not_eq_false, eg] at * <;> omega) (by simp only [i_lt, i_le, i_eq, ne_eq, Int32.reduceToInt, b2_0, b2_1, decide_eq_true_eq, decide_eq_false_iff_not, Bool.not_eq_true, Bool.not_eq_false, eg] at * <;> omega) (by simp only [i_lt, i_le, i_eq, ne_eq, Int32.reduceToInt, b2_0, b2_1, decide_eq_true_eq, decide_eq_false_iff_not, Bool.not_eq_true, Bool.not_eq_false, eg] at * <;> omega) | exact h5 (by simp only [i_lt, i_le, i_eq, ne_eq, Int32.reduceToInt, b2_0, b2_1, decide_eq_true_eq, decide_eq_false_iff_not, Bool.not_eq_true, Bool.not_eq_false, eg] at * <;> omega) (by simp only [i_lt, i_le, i_eq, ne_eq, Int32.reduceToInt, b2_0, b2_1, decide_eq_true_eq, decide_eq_false_iff_not, Bool.not_eq_true, Bool.not_eq_false, eg] at * <;> omega) (by simp only [i_lt, i_le, i_eq, ne_eq, Int32.reduceToInt, b2_0, b2_1, decide_eq_true_eq, decide_eq_false_iff_not, Bool.not_eq_true, Bool.not_eq_false, eg] at * <;> omega) (by simp only [i_lt, i_le, i_eq, ne_eq, Int32.reduceToInt, b2_0, b2_1, decide_eq_true_eq, decide_eq_false_iff_not, Bool.not_eq_true, Bool.not_eq_false, eg] at * <;> omega)
      · -- pc 26
        refine wq_k 27 5 d254_26 (by decide) rfl ?_
        refine wq_g 43 d254_27 (by decide) ?_
        refine wq_ri d254_43 (rfl) ?_
        first | exact h1 (by simp only [i_lt, i_le, i_eq, ne_eq, Int32.reduceToInt, b2_0, b2_1, decide_eq_true_eq, decide_eq_false_iff_not, Bool.not_eq_true, Bool.not_eq_false, eg] at * <;> omega) | exact h2 (by simp only [i_lt, i_le, i_eq, ne_eq, Int32.reduceToInt, b2_0, b2_1, decide_eq_true_eq, decide_eq_false_iff_not, Bool.not_eq_true, Bool.not_eq_false, eg] at * <;> omega) (by simp only [i_lt, i_le, i_eq, ne_eq, Int32.reduceToInt, b2_0, b2_1, decide_eq_true_eq, decide_eq_false_iff_not, Bool.not_eq_true, Bool.not_eq_false, eg] at * <;> omega) | exact h3 (by simp only [i_lt, i_le, i_eq, ne_eq, Int32.reduceToInt, b2_0, b2_1, decide_eq_true_eq, decide_eq_false_iff_not, Bool.not_eq_true, Bool.not_eq_false, eg] at * <;> omega) (by simp only [i_lt, i_le, i_eq, ne_eq, Int32.reduceToInt, b2_0, b2_1, decide_eq_true_eq, decide_eq_false_iff_not, Bool.not_eq_true, Bool.not_eq_false, eg] at * <;> omega) (by simp only [i_lt, i_le, i_eq, ne_eq, Int32.reduceToInt, b2_0, b2_1, decide_eq_true_eq, decide_eq_false_iff_not, Bool.not_eq_true, Bool.not_eq_false, eg] at * <;> omega) | exact h4 (by simp only [i_lt, i_le, i_eq, ne_eq, Int32.reduceToInt, b2_0, b2_1, decide_eq_true_eq, decide_eq_false_iff_not, Bool.not_eq_true, Bool.not_eq_false, eg] at * <;> omega) (by simp only [i_lt, i_le, i_eq, ne_eq, Int32.reduceToInt, b2_0, b2_1, decide_eq_true_eq, decide_eq_false_iff_not, Bool.not_eq_true, Bool.not_eq_false, eg] at * <;> omega) (by simp only [i_lt, i_le, i_eq, ne_eq, Int32.reduceToInt, b2_0, b2_1, decide_eq_true_eq, decide_eq_false_iff_not, Bool.not_eq_true, Bool.not_eq_false, eg] at * <;> omega) (by simp only [i_lt, i_le, i_eq, ne_eq, Int32.reduceToInt, b2_0, b2_1, decide_eq_true_eq, decide_eq_false_iff_not, Bool.not_eq_true, Bool.not_eq_false, eg] at * <;> omega) | exact h5 (by simp only [i_lt, i_le, i_eq, ne_eq, Int32.reduceToInt, b2_0, b2_1, decide_eq_true_eq, decide_eq_false_iff_not, Bool.not_eq_true, Bool.not_eq_false, eg] at * <;> omega) (by simp only [i_lt, i_le, i_eq, ne_eq, Int32.reduceToInt, b2_0, b2_1, decide_eq_true_eq, decide_eq_false_iff_not, Bool.not_eq_true, Bool.not_eq_false, eg] at * <;> omega) (by simp only [i_lt, i_le, i_eq, ne_eq, Int32.reduceToInt, b2_0, b2_1, decide_eq_true_eq, decide_eq_false_iff_not, Bool.not_eq_true, Bool.not_eq_false, eg] at * <;> omega) (by simp only [i_lt, i_le, i_eq, ne_eq, Int32.reduceToInt, b2_0, b2_1, decide_eq_true_eq, decide_eq_false_iff_not, Bool.not_eq_true, Bool.not_eq_false, eg] at * <;> omega)
    · -- pc 16
      refine wq_k 17 4 d254_16 (by decide) rfl ?_
      refine wq_g 43 d254_17 (by decide) ?_
      refine wq_ri d254_43 (rfl) ?_
      first | exact h1 (by simp only [i_lt, i_le, i_eq, ne_eq, Int32.reduceToInt, b2_0, b2_1, decide_eq_true_eq, decide_eq_false_iff_not, Bool.not_eq_true, Bool.not_eq_false, eg] at * <;> omega) | exact h2 (by simp only [i_lt, i_le, i_eq, ne_eq, Int32.reduceToInt, b2_0, b2_1, decide_eq_true_eq, decide_eq_false_iff_not, Bool.not_eq_true, Bool.not_eq_false, eg] at * <;> omega) (by simp only [i_lt, i_le, i_eq, ne_eq, Int32.reduceToInt, b2_0, b2_1, decide_eq_true_eq, decide_eq_false_iff_not, Bool.not_eq_true, Bool.not_eq_false, eg] at * <;> omega) | exact h3 (by simp only [i_lt, i_le, i_eq, ne_eq, Int32.reduceToInt, b2_0, b2_1, decide_eq_true_eq, decide_eq_false_iff_not, Bool.not_eq_true, Bool.not_eq_false, eg] at * <;> omega) (by simp only [i_lt, i_le, i_eq, ne_eq, Int32.reduceToInt, b2_0, b2_1, decide_eq_true_eq, decide_eq_false_iff_not, Bool.not_eq_true, Bool.not_eq_false, eg] at * <;> omega) (by simp only [i_lt, i_le, i_eq, ne_eq, Int32.reduceToInt, b2_0, b2_1, decide_eq_true_eq, decide_eq_false_iff_not, Bool.not_eq_true, Bool.not_eq_false, eg] at * <;> omega) | exact h4 (by simp only [i_lt, i_le, i_eq, ne_eq, Int32.reduceToInt, b2_0, b2_1, decide_eq_true_eq, decide_eq_false_iff_not, Bool.not_eq_true, Bool.not_eq_false, eg] at * <;> omega) (by simp only [i_lt, i_le, i_eq, ne_eq, Int32.reduceToInt, b2_0, b2_1, decide_eq_true_eq, decide_eq_false_iff_not, Bool.not_eq_true, Bool.not_eq_false, eg] at * <;> omega) (by simp only [i_lt, i_le, i_eq, ne_eq, Int32.reduceToInt, b2_0, b2_1, decide_eq_true_eq, decide_eq_false_iff_not, Bool.not_eq_true, Bool.not_eq_false, eg] at * <;> omega) (by simp only [i_lt, i_le, i_eq, ne_eq, Int32.reduceToInt, b2_0, b2_1, decide_eq_true_eq, decide_eq_false_iff_not, Bool.not_eq_true, Bool.not_eq_false, eg] at * <;> omega) | exact h5 (by simp only [i_lt, i_le, i_eq, ne_eq, Int32.reduceToInt, b2_0, b2_1, decide_eq_true_eq, decide_eq_false_iff_not, Bool.not_eq_true, Bool.not_eq_false, eg] at * <;> omega) (by simp only [i_lt, i_le, i_eq, ne_eq, Int32.reduceToInt, b2_0, b2_1, decide_eq_true_eq, decide_eq_false_iff_not, Bool.not_eq_true, Bool.not_eq_false, eg] at * <;> omega) (by simp only [i_lt, i_le, i_eq, ne_eq, Int32.reduceToInt, b2_0, b2_1, decide_eq_true_eq, decide_eq_false_iff_not, Bool.not_eq_true, Bool.not_eq_false, eg] at * <;> omega) (by simp only [i_lt, i_le, i_eq, ne_eq, Int32.reduceToInt, b2_0, b2_1, decide_eq_true_eq, decide_eq_false_iff_not, Bool.not_eq_true, Bool.not_eq_false, eg] at * <;> omega)
  · -- pc 5
    refine wq_l 6 d254_5 rfl rfl rfl rfl ?_
    refine wq_k 7 1 d254_6 (by decide) rfl ?_
    refine wq_a 8 d254_7 rfl rfl ?_
    refine wq_g 43 d254_8 (by decide) ?_
    refine wq_ri d254_43 (rfl) ?_
    first | exact h1 (by simp only [i_lt, i_le, i_eq, ne_eq, Int32.reduceToInt, b2_0, b2_1, decide_eq_true_eq, decide_eq_false_iff_not, Bool.not_eq_true, Bool.not_eq_false, eg] at * <;> omega) | exact h2 (by simp only [i_lt, i_le, i_eq, ne_eq, Int32.reduceToInt, b2_0, b2_1, decide_eq_true_eq, decide_eq_false_iff_not, Bool.not_eq_true, Bool.not_eq_false, eg] at * <;> omega) (by simp only [i_lt, i_le, i_eq, ne_eq, Int32.reduceToInt, b2_0, b2_1, decide_eq_true_eq, decide_eq_false_iff_not, Bool.not_eq_true, Bool.not_eq_false, eg] at * <;> omega) | exact h3 (by simp only [i_lt, i_le, i_eq, ne_eq, Int32.reduceToInt, b2_0, b2_1, decide_eq_true_eq, decide_eq_false_iff_not, Bool.not_eq_true, Bool.not_eq_false, eg] at * <;> omega) (by simp only [i_lt, i_le, i_eq, ne_eq, Int32.reduceToInt, b2_0, b2_1, decide_eq_true_eq, decide_eq_false_iff_not, Bool.not_eq_true, Bool.not_eq_false, eg] at * <;> omega) (by simp only [i_lt, i_le, i_eq, ne_eq, Int32.reduceToInt, b2_0, b2_1, decide_eq_true_eq, decide_eq_false_iff_not, Bool.not_eq_true, Bool.not_eq_false, eg] at * <;> omega) | exact h4 (by simp only [i_lt, i_le, i_eq, ne_eq, Int32.reduceToInt, b2_0, b2_1, decide_eq_true_eq, decide_eq_false_iff_not, Bool.not_eq_true, Bool.not_eq_false, eg] at * <;> omega) (by simp only [i_lt, i_le, i_eq, ne_eq, Int32.reduceToInt, b2_0, b2_1, decide_eq_true_eq, decide_eq_false_iff_not, Bool.not_eq_true, Bool.not_eq_false, eg] at * <;> omega) (by simp only [i_lt, i_le, i_eq, ne_eq, Int32.reduceToInt, b2_0, b2_1, decide_eq_true_eq, decide_eq_false_iff_not, Bool.not_eq_true, Bool.not_eq_false, eg] at * <;> omega) (by simp only [i_lt, i_le, i_eq, ne_eq, Int32.reduceToInt, b2_0, b2_1, decide_eq_true_eq, decide_eq_false_iff_not, Bool.not_eq_true, Bool.not_eq_false, eg] at * <;> omega) | exact h5 (by simp only [i_lt, i_le, i_eq, ne_eq, Int32.reduceToInt, b2_0, b2_1, decide_eq_true_eq, decide_eq_false_iff_not, Bool.not_eq_true, Bool.not_eq_false, eg] at * <;> omega) (by simp only [i_lt, i_le, i_eq, ne_eq, Int32.reduceToInt, b2_0, b2_1, decide_eq_true_eq, decide_eq_false_iff_not, Bool.not_eq_true, Bool.not_eq_false, eg] at * <;> omega) (by simp only [i_lt, i_le, i_eq, ne_eq, Int32.reduceToInt, b2_0, b2_1, decide_eq_true_eq, decide_eq_false_iff_not, Bool.not_eq_true, Bool.not_eq_false, eg] at * <;> omega) (by simp only [i_lt, i_le, i_eq, ne_eq, Int32.reduceToInt, b2_0, b2_1, decide_eq_true_eq, decide_eq_false_iff_not, Bool.not_eq_true, Bool.not_eq_false, eg] at * <;> omega)
def xs_st (x : Int32) : Int32 := if x = 130 then 1 else if x = 131 then 2 else if x = 132 then 3 else if x = 133 then 7 else if x = 238 then 3 else if x = 242 then 7 else if x = 243 then 6 else if x = 245 then 6 else if x = 247 then 7 else if x = 260 then 5 else if x = 261 then 4 else if x = 262 then 5 else if x = 402 then 5 else if x = 403 then 5 else if x = 404 then 4 else  0
theorem sp251 {d : Nat} {σ : pm_S} {Q : Option Value → pm_S → Prop} {x : Int32} (hQ : Q (some (.int (xs_st x))) σ) : pm_call pm_Y0 (d + 1) 251 [.int x] σ Q := by
  refine wq_m m251 (Nat.le_of_ble_eq_true rfl) (by decide) rfl ?_
  refine wq_l 1 d251_0 rfl rfl rfl rfl ?_
  refine wq_lsw [(130, 132), (131, 134), (132, 136), (133, 145), (238, 136), (242, 145), (243, 142), (245, 142), (247, 145), (260, 140), (261, 138), (262, 140), (402, 140), (403, 140), (404, 138)] 148 d251_1 (by decide) (List.forall_mem_cons.mpr ⟨fun e1 => ?_, List.forall_mem_cons.mpr ⟨fun e1 => ?_, List.forall_mem_cons.mpr ⟨fun e1 => ?_, List.forall_mem_cons.mpr ⟨fun e1 => ?_, List.forall_mem_cons.mpr ⟨fun e1 => ?_, List.forall_mem_cons.mpr ⟨fun e1 => ?_, List.forall_mem_cons.mpr ⟨fun e1 => ?_, List.forall_mem_cons.mpr ⟨fun e1 => ?_, List.forall_mem_cons.mpr ⟨fun e1 => ?_, List.forall_mem_cons.mpr ⟨fun e1 => ?_, List.forall_mem_cons.mpr ⟨fun e1 => ?_, List.forall_mem_cons.mpr ⟨fun e1 => ?_, List.forall_mem_cons.mpr ⟨fun e1 => ?_, List.forall_mem_cons.mpr ⟨fun e1 => ?_, List.forall_mem_cons.mpr ⟨fun e1 => ?_, fun _ h => absurd h List.not_mem_nil⟩⟩⟩⟩⟩⟩⟩⟩⟩⟩⟩⟩⟩⟩⟩) (fun e1 => ?_)
  · -- case 130
    have ex : x = 130 := e1; rw [ex, show xs_st 130 = 1 by decide] at hQ
    refine wq_k 133 1 d251_132 (by decide) rfl ?_
    refine wq_ri d251_133 (rfl) ?_
    exact hQ
  · -- case 131
    have ex : x = 131 := e1; rw [ex, show xs_st 131 = 2 by decide] at hQ
    refine wq_k 135 2 d251_134 (by decide) rfl ?_
    refine wq_ri d251_135 (rfl) ?_
    exact hQ
  · -- case 132
    have ex : x = 132 := e1; rw [ex, show xs_st 132 = 3 by decide] at hQ
    refine wq_k 137 3 d251_136 (by decide) rfl ?_
    refine wq_ri d251_137 (rfl) ?_
    exact hQ
  · -- case 133
    have ex : x = 133 := e1; rw [ex, show xs_st 133 = 7 by decide] at hQ
    refine wq_k 147 7 d251_145 (by decide) rfl ?_
    refine wq_ri d251_147 (rfl) ?_
    exact hQ
  · -- case 238
    have ex : x = 238 := e1; rw [ex, show xs_st 238 = 3 by decide] at hQ
    refine wq_k 137 3 d251_136 (by decide) rfl ?_
    refine wq_ri d251_137 (rfl) ?_
    exact hQ
  · -- case 242
    have ex : x = 242 := e1; rw [ex, show xs_st 242 = 7 by decide] at hQ
    refine wq_k 147 7 d251_145 (by decide) rfl ?_
    refine wq_ri d251_147 (rfl) ?_
    exact hQ
  · -- case 243
    have ex : x = 243 := e1; rw [ex, show xs_st 243 = 6 by decide] at hQ
    refine wq_k 144 6 d251_142 (by decide) rfl ?_
    refine wq_ri d251_144 (rfl) ?_
    exact hQ
  · -- case 245
    have ex : x = 245 := e1; rw [ex, show xs_st 245 = 6 by decide] at hQ
    refine wq_k 144 6 d251_142 (by decide) rfl ?_
    refine wq_ri d251_144 (rfl) ?_
    exact hQ
  · -- case 247
    have ex : x = 247 := e1; rw [ex, show xs_st 247 = 7 by decide] at hQ
    refine wq_k 147 7 d251_145 (by decide) rfl ?_
    refine wq_ri d251_147 (rfl) ?_
    exact hQ
  · -- case 260
    have ex : x = 260 := e1; rw [ex, show xs_st 260 = 5 by decide] at hQ
    refine wq_k 141 5 d251_140 (by decide) rfl ?_
    refine wq_ri d251_141 (rfl) ?_
    exact hQ
  · -- case 261
    have ex : x = 261 := e1; rw [ex, show xs_st 261 = 4 by decide] at hQ
    refine wq_k 139 4 d251_138 (by decide) rfl ?_
    refine wq_ri d251_139 (rfl) ?_
    exact hQ
  · -- case 262
    have ex : x = 262 := e1; rw [ex, show xs_st 262 = 5 by decide] at hQ
    refine wq_k 141 5 d251_140 (by decide) rfl ?_
    refine wq_ri d251_141 (rfl) ?_
    exact hQ
  · -- case 402
    have ex : x = 402 := e1; rw [ex, show xs_st 402 = 5 by decide] at hQ
    refine wq_k 141 5 d251_140 (by decide) rfl ?_
    refine wq_ri d251_141 (rfl) ?_
    exact hQ
  · -- case 403
    have ex : x = 403 := e1; rw [ex, show xs_st 403 = 5 by decide] at hQ
    refine wq_k 141 5 d251_140 (by decide) rfl ?_
    refine wq_ri d251_141 (rfl) ?_
    exact hQ
  · -- case 404
    have ex : x = 404 := e1; rw [ex, show xs_st 404 = 4 by decide] at hQ
    refine wq_k 139 4 d251_138 (by decide) rfl ?_
    refine wq_ri d251_139 (rfl) ?_
    exact hQ
  · -- default
    have w1_130 := e1 (130, 132) (by decide)
    have w1_131 := e1 (131, 134) (by decide)
    have w1_132 := e1 (132, 136) (by decide)
    have w1_133 := e1 (133, 145) (by decide)
    have w1_238 := e1 (238, 136) (by decide)
    have w1_242 := e1 (242, 145) (by decide)
    have w1_243 := e1 (243, 142) (by decide)
    have w1_245 := e1 (245, 142) (by decide)
    have w1_247 := e1 (247, 145) (by decide)
    have w1_260 := e1 (260, 140) (by decide)
    have w1_261 := e1 (261, 138) (by decide)
    have w1_262 := e1 (262, 140) (by decide)
    have w1_402 := e1 (402, 140) (by decide)
    have w1_403 := e1 (403, 140) (by decide)
    have w1_404 := e1 (404, 138) (by decide)
    unfold xs_st at hQ
    simp only [if_neg w1_130, if_neg w1_131, if_neg w1_132, if_neg w1_133, if_neg w1_238, if_neg w1_242, if_neg w1_243, if_neg w1_245, if_neg w1_247, if_neg w1_260, if_neg w1_261, if_neg w1_262, if_neg w1_402, if_neg w1_403, if_neg w1_404] at hQ
    refine wq_k 149 0 d251_148 (by decide) rfl ?_
    refine wq_ri d251_149 (rfl) ?_
    exact hQ
def xs_op (x : Int32) : Int32 := if x = 130 then 0 else if x = 131 then 1 else if x = 132 then 2 else if x = 238 then 2 else if x = 242 then 11 else if x = 243 then 9 else if x = 245 then 10 else if x = 247 then 12 else if x = 260 then 5 else if x = 261 then 3 else if x = 262 then 6 else if x = 402 then 7 else if x = 403 then 8 else if x = 404 then 4 else  13
theorem sp255 {d : Nat} {σ : pm_S} {Q : Option Value → pm_S → Prop} {x : Int32} (hQ : Q (some (.int (xs_op x))) σ) : pm_call pm_Y0 (d + 1) 255 [.int x] σ Q := by
  refine wq_m m255 (Nat.le_of_ble_eq_true rfl) (by decide) rfl ?_
  refine wq_l 1 d255_0 rfl rfl rfl rfl ?_
  refine wq_lsw [(130, 124), (131, 126), (132, 128), (238, 128), (242, 151), (243, 145), (245, 148), (247, 154), (260, 134), (261, 130), (262, 136), (402, 139), (403, 142), (404, 132)] 157 d255_1 (by decide) (List.forall_mem_cons.mpr ⟨fun e1 => ?_, List.forall_mem_cons.mpr ⟨fun e1 => ?_, List.forall_mem_cons.mpr ⟨fun e1 => ?_, List.forall_mem_cons.mpr ⟨fun e1 => ?_, List.forall_mem_cons.mpr ⟨fun e1 => ?_, List.forall_mem_cons.mpr ⟨fun e1 => ?_, List.forall_mem_cons.mpr ⟨fun e1 => ?_, List.forall_mem_cons.mpr ⟨fun e1 => ?_, List.forall_mem_cons.mpr ⟨fun e1 => ?_, List.forall_mem_cons.mpr ⟨fun e1 => ?_, List.forall_mem_cons.mpr ⟨fun e1 => ?_, List.forall_mem_cons.mpr ⟨fun e1 => ?_, List.forall_mem_cons.mpr ⟨fun e1 => ?_, List.forall_mem_cons.mpr ⟨fun e1 => ?_, fun _ h => absurd h List.not_mem_nil⟩⟩⟩⟩⟩⟩⟩⟩⟩⟩⟩⟩⟩⟩) (fun e1 => ?_)
  · -- case 130
    have ex : x = 130 := e1; rw [ex, show xs_op 130 = 0 by decide] at hQ
    refine wq_k 125 0 d255_124 (by decide) rfl ?_
    refine wq_ri d255_125 (rfl) ?_
    exact hQ
  · -- case 131
    have ex : x = 131 := e1; rw [ex, show xs_op 131 = 1 by decide] at hQ
    refine wq_k 127 1 d255_126 (by decide) rfl ?_
    refine wq_ri d255_127 (rfl) ?_
    exact hQ
  · -- case 132
    have ex : x = 132 := e1; rw [ex, show xs_op 132 = 2 by decide] at hQ
    refine wq_k 129 2 d255_128 (by decide) rfl ?_
    refine wq_ri d255_129 (rfl) ?_
    exact hQ
  · -- case 238
    have ex : x = 238 := e1; rw [ex, show xs_op 238 = 2 by decide] at hQ
    refine wq_k 129 2 d255_128 (by decide) rfl ?_
    refine wq_ri d255_129 (rfl) ?_
    exact hQ
  · -- case 242
    have ex : x = 242 := e1; rw [ex, show xs_op 242 = 11 by decide] at hQ
    refine wq_k 153 11 d255_151 (by decide) rfl ?_
    refine wq_ri d255_153 (rfl) ?_
    exact hQ
  · -- case 243
    have ex : x = 243 := e1; rw [ex, show xs_op 243 = 9 by decide] at hQ
    refine wq_k 147 9 d255_145 (by decide) rfl ?_
    refine wq_ri d255_147 (rfl) ?_
    exact hQ
  · -- case 245
    have ex : x = 245 := e1; rw [ex, show xs_op 245 = 10 by decide] at hQ
    refine wq_k 150 10 d255_148 (by decide) rfl ?_
    refine wq_ri d255_150 (rfl) ?_
    exact hQ
  · -- case 247
    have ex : x = 247 := e1; rw [ex, show xs_op 247 = 12 by decide] at hQ
    refine wq_k 156 12 d255_154 (by decide) rfl ?_
    refine wq_ri d255_156 (rfl) ?_
    exact hQ
  · -- case 260
    have ex : x = 260 := e1; rw [ex, show xs_op 260 = 5 by decide] at hQ
    refine wq_k 135 5 d255_134 (by decide) rfl ?_
    refine wq_ri d255_135 (rfl) ?_
    exact hQ
  · -- case 261
    have ex : x = 261 := e1; rw [ex, show xs_op 261 = 3 by decide] at hQ
    refine wq_k 131 3 d255_130 (by decide) rfl ?_
    refine wq_ri d255_131 (rfl) ?_
    exact hQ
  · -- case 262
    have ex : x = 262 := e1; rw [ex, show xs_op 262 = 6 by decide] at hQ
    refine wq_k 138 6 d255_136 (by decide) rfl ?_
    refine wq_ri d255_138 (rfl) ?_
    exact hQ
  · -- case 402
    have ex : x = 402 := e1; rw [ex, show xs_op 402 = 7 by decide] at hQ
    refine wq_k 141 7 d255_139 (by decide) rfl ?_
    refine wq_ri d255_141 (rfl) ?_
    exact hQ
  · -- case 403
    have ex : x = 403 := e1; rw [ex, show xs_op 403 = 8 by decide] at hQ
    refine wq_k 144 8 d255_142 (by decide) rfl ?_
    refine wq_ri d255_144 (rfl) ?_
    exact hQ
  · -- case 404
    have ex : x = 404 := e1; rw [ex, show xs_op 404 = 4 by decide] at hQ
    refine wq_k 133 4 d255_132 (by decide) rfl ?_
    refine wq_ri d255_133 (rfl) ?_
    exact hQ
  · -- default
    have w1_130 := e1 (130, 124) (by decide)
    have w1_131 := e1 (131, 126) (by decide)
    have w1_132 := e1 (132, 128) (by decide)
    have w1_238 := e1 (238, 128) (by decide)
    have w1_242 := e1 (242, 151) (by decide)
    have w1_243 := e1 (243, 145) (by decide)
    have w1_245 := e1 (245, 148) (by decide)
    have w1_247 := e1 (247, 154) (by decide)
    have w1_260 := e1 (260, 134) (by decide)
    have w1_261 := e1 (261, 130) (by decide)
    have w1_262 := e1 (262, 136) (by decide)
    have w1_402 := e1 (402, 139) (by decide)
    have w1_403 := e1 (403, 142) (by decide)
    have w1_404 := e1 (404, 132) (by decide)
    unfold xs_op at hQ
    simp only [if_neg w1_130, if_neg w1_131, if_neg w1_132, if_neg w1_238, if_neg w1_242, if_neg w1_243, if_neg w1_245, if_neg w1_247, if_neg w1_260, if_neg w1_261, if_neg w1_262, if_neg w1_402, if_neg w1_403, if_neg w1_404] at hQ
    refine wq_k 159 13 d255_157 (by decide) rfl ?_
    refine wq_ri d255_159 (rfl) ?_
    exact hQ
theorem xs_stk : ∀ k, k < 69 → k ≠ 45 → k ≠ 46 → xs_st (rx_c k) = nI (match pg_sign k with | some g => pg_bind g + 1 | none => 0) := by decide +kernel
theorem xs_opk : ∀ k, k < 69 → ∀ g, pg_sign k = some g → xs_op (rx_c k) = nI g ∧ g ≤ 13 ∧ k ≠ 44 ∧ k ≠ 45 ∧ k ≠ 46 := by
  intro k hk g h
  have key : ∀ k, k < 69 → pg_sign k ≠ none → (xs_op (rx_c k) = nI ((pg_sign k).getD 0) ∧ (pg_sign k).getD 0 ≤ 13 ∧ k ≠ 44 ∧ k ≠ 45 ∧ k ≠ 46) := by decide +kernel
  have := key k hk (by rw [h]; exact fun z => by cases z)
  rw [h] at this
  exact this
