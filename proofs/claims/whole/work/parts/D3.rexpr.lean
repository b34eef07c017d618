theorem d305_0 : decode prog_14_method_94_code 0 = .ok (.aload_n 0, 1) := by decide +kernel
theorem d305_1 : decode prog_14_method_94_code 1 = .ok (.aload_n 0, 1) := by decide +kernel
theorem d305_2 : decode prog_14_method_94_code 2 = .ok (.getfield 35, 3) := by decide +kernel
theorem d305_5 : decode prog_14_method_94_code 5 = .ok (.iload_n 1, 1) := by decide +kernel
theorem d305_6 : decode prog_14_method_94_code 6 = .ok (.iaload, 1) := by decide +kernel
theorem d305_7 : decode prog_14_method_94_code 7 = .ok (.iconst 1, 1) := by decide +kernel
theorem d305_8 : decode prog_14_method_94_code 8 = .ok (.invokevirtual 593, 3) := by decide +kernel
theorem d305_11 : decode prog_14_method_94_code 11 = .ok (.istore_n 2, 1) := by decide +kernel
theorem d305_12 : decode prog_14_method_94_code 12 = .ok (.iload_n 2, 1) := by decide +kernel
theorem d305_13 : decode prog_14_method_94_code 13 = .ok (.ifCond .gt 21, 3) := by decide +kernel
theorem d305_16 : decode prog_14_method_94_code 16 = .ok (.aload_n 0, 1) := by decide +kernel
theorem d305_17 : decode prog_14_method_94_code 17 = .ok (.aload_n 0, 1) := by decide +kernel
theorem d305_18 : decode prog_14_method_94_code 18 = .ok (.getfield 50, 3) := by decide +kernel
theorem d305_21 : decode prog_14_method_94_code 21 = .ok (.aload_n 0, 1) := by decide +kernel
theorem d305_22 : decode prog_14_method_94_code 22 = .ok (.getfield 38, 3) := by decide +kernel
theorem d305_25 : decode prog_14_method_94_code 25 = .ok (.iload_n 1, 1) := by decide +kernel
theorem d305_26 : decode prog_14_method_94_code 26 = .ok (.iaload, 1) := by decide +kernel
theorem d305_27 : decode prog_14_method_94_code 27 = .ok (.iaload, 1) := by decide +kernel
theorem d305_28 : decode prog_14_method_94_code 28 = .ok (.invokevirtual 596, 3) := by decide +kernel
theorem d305_31 : decode prog_14_method_94_code 31 = .ok (.ifCond .ne 14, 3) := by decide +kernel
theorem d305_34 : decode prog_14_method_94_code 34 = .ok (.iload_n 2, 1) := by decide +kernel
theorem d305_35 : decode prog_14_method_94_code 35 = .ok (.ifCond .le 7, 3) := by decide +kernel
theorem d305_38 : decode prog_14_method_94_code 38 = .ok (.iload_n 2, 1) := by decide +kernel
theorem d305_39 : decode prog_14_method_94_code 39 = .ok (.goto 5, 3) := by decide +kernel
theorem d305_42 : decode prog_14_method_94_code 42 = .ok (.bipush 22, 2) := by decide +kernel
theorem d305_44 : decode prog_14_method_94_code 44 = .ok (.ireturn, 1) := by decide +kernel
theorem d305_45 : decode prog_14_method_94_code 45 = .ok (.aload_n 0, 1) := by decide +kernel
theorem d305_46 : decode prog_14_method_94_code 46 = .ok (.aload_n 0, 1) := by decide +kernel
theorem d305_47 : decode prog_14_method_94_code 47 = .ok (.getfield 35, 3) := by decide +kernel
theorem d305_50 : decode prog_14_method_94_code 50 = .ok (.iload_n 1, 1) := by decide +kernel
theorem d305_51 : decode prog_14_method_94_code 51 = .ok (.iaload, 1) := by decide +kernel
theorem d305_52 : decode prog_14_method_94_code 52 = .ok (.invokevirtual 590, 3) := by decide +kernel
theorem d305_55 : decode prog_14_method_94_code 55 = .ok (.istore_n 3, 1) := by decide +kernel
theorem d305_56 : decode prog_14_method_94_code 56 = .ok (.aload_n 0, 1) := by decide +kernel
theorem d305_57 : decode prog_14_method_94_code 57 = .ok (.getfield 50, 3) := by decide +kernel
theorem d305_60 : decode prog_14_method_94_code 60 = .ok (.iload_n 1, 1) := by decide +kernel
theorem d305_61 : decode prog_14_method_94_code 61 = .ok (.aload_n 0, 1) := by decide +kernel
theorem d305_62 : decode prog_14_method_94_code 62 = .ok (.getfield 95, 3) := by decide +kernel
theorem d305_65 : decode prog_14_method_94_code 65 = .ok (.iload_n 3, 1) := by decide +kernel
theorem d305_66 : decode prog_14_method_94_code 66 = .ok (.iaload, 1) := by decide +kernel
theorem d305_67 : decode prog_14_method_94_code 67 = .ok (.iastore, 1) := by decide +kernel
theorem d305_68 : decode prog_14_method_94_code 68 = .ok (.aload_n 0, 1) := by decide +kernel
theorem d305_69 : decode prog_14_method_94_code 69 = .ok (.getfield 53, 3) := by decide +kernel
theorem d305_72 : decode prog_14_method_94_code 72 = .ok (.iload_n 1, 1) := by decide +kernel
theorem d305_73 : decode prog_14_method_94_code 73 = .ok (.aload_n 0, 1) := by decide +kernel
theorem d305_74 : decode prog_14_method_94_code 74 = .ok (.getfield 104, 3) := by decide +kernel
theorem d305_77 : decode prog_14_method_94_code 77 = .ok (.iload_n 3, 1) := by decide +kernel
theorem d305_78 : decode prog_14_method_94_code 78 = .ok (.iaload, 1) := by decide +kernel
theorem d305_79 : decode prog_14_method_94_code 79 = .ok (.iastore, 1) := by decide +kernel
theorem d305_80 : decode prog_14_method_94_code 80 = .ok (.iconst 0, 1) := by decide +kernel
theorem d305_81 : decode prog_14_method_94_code 81 = .ok (.ireturn, 1) := by decide +kernel
theorem m305 : pm_m 305 = some (⟨"TypeRulesModel", "elementRule", "(I)I"⟩, prog_14_method_94_code, 4, (some FieldType.int), 10, 1, 11) := rfl
theorem d307_0 : decode prog_14_method_95_code 0 = .ok (.aload_n 0, 1) := by decide +kernel
theorem d307_1 : decode prog_14_method_95_code 1 = .ok (.aload_n 0, 1) := by decide +kernel
theorem d307_2 : decode prog_14_method_95_code 2 = .ok (.getfield 35, 3) := by decide +kernel
theorem d307_5 : decode prog_14_method_95_code 5 = .ok (.iload_n 1, 1) := by decide +kernel
theorem d307_6 : decode prog_14_method_95_code 6 = .ok (.iaload, 1) := by decide +kernel
theorem d307_7 : decode prog_14_method_95_code 7 = .ok (.iconst 2, 1) := by decide +kernel
theorem d307_8 : decode prog_14_method_95_code 8 = .ok (.invokevirtual 593, 3) := by decide +kernel
theorem d307_11 : decode prog_14_method_95_code 11 = .ok (.istore_n 2, 1) := by decide +kernel
theorem d307_12 : decode prog_14_method_95_code 12 = .ok (.iload_n 2, 1) := by decide +kernel
theorem d307_13 : decode prog_14_method_95_code 13 = .ok (.ifCond .le 5, 3) := by decide +kernel
theorem d307_16 : decode prog_14_method_95_code 16 = .ok (.iload_n 2, 1) := by decide +kernel
theorem d307_17 : decode prog_14_method_95_code 17 = .ok (.ireturn, 1) := by decide +kernel
theorem d307_18 : decode prog_14_method_95_code 18 = .ok (.aload_n 0, 1) := by decide +kernel
theorem d307_19 : decode prog_14_method_95_code 19 = .ok (.aload_n 0, 1) := by decide +kernel
theorem d307_20 : decode prog_14_method_95_code 20 = .ok (.getfield 35, 3) := by decide +kernel
theorem d307_23 : decode prog_14_method_95_code 23 = .ok (.iload_n 1, 1) := by decide +kernel
theorem d307_24 : decode prog_14_method_95_code 24 = .ok (.iaload, 1) := by decide +kernel
theorem d307_25 : decode prog_14_method_95_code 25 = .ok (.invokevirtual 590, 3) := by decide +kernel
theorem d307_28 : decode prog_14_method_95_code 28 = .ok (.istore_n 3, 1) := by decide +kernel
theorem d307_29 : decode prog_14_method_95_code 29 = .ok (.aload_n 0, 1) := by decide +kernel
theorem d307_30 : decode prog_14_method_95_code 30 = .ok (.iload_n 3, 1) := by decide +kernel
theorem d307_31 : decode prog_14_method_95_code 31 = .ok (.aload_n 0, 1) := by decide +kernel
theorem d307_32 : decode prog_14_method_95_code 32 = .ok (.getfield 35, 3) := by decide +kernel
theorem d307_35 : decode prog_14_method_95_code 35 = .ok (.aload_n 0, 1) := by decide +kernel
theorem d307_36 : decode prog_14_method_95_code 36 = .ok (.getfield 38, 3) := by decide +kernel
theorem d307_39 : decode prog_14_method_95_code 39 = .ok (.iload_n 1, 1) := by decide +kernel
theorem d307_40 : decode prog_14_method_95_code 40 = .ok (.iaload, 1) := by decide +kernel
theorem d307_41 : decode prog_14_method_95_code 41 = .ok (.iaload, 1) := by decide +kernel
theorem d307_42 : decode prog_14_method_95_code 42 = .ok (.invokevirtual 599, 3) := by decide +kernel
theorem d307_45 : decode prog_14_method_95_code 45 = .ok (.istore 4, 2) := by decide +kernel
theorem d307_47 : decode prog_14_method_95_code 47 = .ok (.iload 4, 2) := by decide +kernel
theorem d307_49 : decode prog_14_method_95_code 49 = .ok (.ifCond .lt 15, 3) := by decide +kernel
theorem d307_52 : decode prog_14_method_95_code 52 = .ok (.iload 4, 2) := by decide +kernel
theorem d307_54 : decode prog_14_method_95_code 54 = .ok (.bipush 100, 2) := by decide +kernel
theorem d307_56 : decode prog_14_method_95_code 56 = .ok (.idiv, 1) := by decide +kernel
theorem d307_57 : decode prog_14_method_95_code 57 = .ok (.bipush 10, 2) := by decide +kernel
theorem d307_59 : decode prog_14_method_95_code 59 = .ok (.irem, 1) := by decide +kernel
theorem d307_60 : decode prog_14_method_95_code 60 = .ok (.iconst 1, 1) := by decide +kernel
theorem d307_61 : decode prog_14_method_95_code 61 = .ok (.if_icmp .ne 6, 3) := by decide +kernel
theorem d307_64 : decode prog_14_method_95_code 64 = .ok (.bipush 23, 2) := by decide +kernel
theorem d307_66 : decode prog_14_method_95_code 66 = .ok (.ireturn, 1) := by decide +kernel
theorem d307_67 : decode prog_14_method_95_code 67 = .ok (.aload_n 0, 1) := by decide +kernel
theorem d307_68 : decode prog_14_method_95_code 68 = .ok (.getfield 50, 3) := by decide +kernel
theorem d307_71 : decode prog_14_method_95_code 71 = .ok (.iload_n 1, 1) := by decide +kernel
theorem d307_72 : decode prog_14_method_95_code 72 = .ok (.iload 4, 2) := by decide +kernel
theorem d307_74 : decode prog_14_method_95_code 74 = .ok (.bipush 10, 2) := by decide +kernel
theorem d307_76 : decode prog_14_method_95_code 76 = .ok (.idiv, 1) := by decide +kernel
theorem d307_77 : decode prog_14_method_95_code 77 = .ok (.bipush 10, 2) := by decide +kernel
theorem d307_79 : decode prog_14_method_95_code 79 = .ok (.irem, 1) := by decide +kernel
theorem d307_80 : decode prog_14_method_95_code 80 = .ok (.iastore, 1) := by decide +kernel
theorem d307_81 : decode prog_14_method_95_code 81 = .ok (.aload_n 0, 1) := by decide +kernel
theorem d307_82 : decode prog_14_method_95_code 82 = .ok (.getfield 53, 3) := by decide +kernel
theorem d307_85 : decode prog_14_method_95_code 85 = .ok (.iload_n 1, 1) := by decide +kernel
theorem d307_86 : decode prog_14_method_95_code 86 = .ok (.aload_n 0, 1) := by decide +kernel
theorem d307_87 : decode prog_14_method_95_code 87 = .ok (.getfield 104, 3) := by decide +kernel
theorem d307_90 : decode prog_14_method_95_code 90 = .ok (.iload_n 3, 1) := by decide +kernel
theorem d307_91 : decode prog_14_method_95_code 91 = .ok (.iaload, 1) := by decide +kernel
theorem d307_92 : decode prog_14_method_95_code 92 = .ok (.iload 4, 2) := by decide +kernel
theorem d307_94 : decode prog_14_method_95_code 94 = .ok (.aload_n 0, 1) := by decide +kernel
theorem d307_95 : decode prog_14_method_95_code 95 = .ok (.getfield 95, 3) := by decide +kernel
theorem d307_98 : decode prog_14_method_95_code 98 = .ok (.iload_n 3, 1) := by decide +kernel
theorem d307_99 : decode prog_14_method_95_code 99 = .ok (.iaload, 1) := by decide +kernel
theorem d307_100 : decode prog_14_method_95_code 100 = .ok (.invokestatic 602, 3) := by decide +kernel
theorem d307_103 : decode prog_14_method_95_code 103 = .ok (.iadd, 1) := by decide +kernel
theorem d307_104 : decode prog_14_method_95_code 104 = .ok (.iastore, 1) := by decide +kernel
theorem d307_105 : decode prog_14_method_95_code 105 = .ok (.iconst 0, 1) := by decide +kernel
theorem d307_106 : decode prog_14_method_95_code 106 = .ok (.ireturn, 1) := by decide +kernel
theorem m307 : pm_m 307 = some (⟨"TypeRulesModel", "outputRule", "(I)I"⟩, prog_14_method_95_code, 5, (some FieldType.int), 10, 1, 11) := rfl
theorem d312_0 : decode prog_14_method_101_code 0 = .ok (.aload_n 0, 1) := by decide +kernel
theorem d312_1 : decode prog_14_method_101_code 1 = .ok (.getfield 50, 3) := by decide +kernel
theorem d312_4 : decode prog_14_method_101_code 4 = .ok (.aload_n 0, 1) := by decide +kernel
theorem d312_5 : decode prog_14_method_101_code 5 = .ok (.getfield 38, 3) := by decide +kernel
theorem d312_8 : decode prog_14_method_101_code 8 = .ok (.iload_n 1, 1) := by decide +kernel
theorem d312_9 : decode prog_14_method_101_code 9 = .ok (.iaload, 1) := by decide +kernel
theorem d312_10 : decode prog_14_method_101_code 10 = .ok (.iaload, 1) := by decide +kernel
theorem d312_11 : decode prog_14_method_101_code 11 = .ok (.istore_n 2, 1) := by decide +kernel
theorem d312_12 : decode prog_14_method_101_code 12 = .ok (.aload_n 0, 1) := by decide +kernel
theorem d312_13 : decode prog_14_method_101_code 13 = .ok (.getfield 50, 3) := by decide +kernel
theorem d312_16 : decode prog_14_method_101_code 16 = .ok (.aload_n 0, 1) := by decide +kernel
theorem d312_17 : decode prog_14_method_101_code 17 = .ok (.getfield 41, 3) := by decide +kernel
theorem d312_20 : decode prog_14_method_101_code 20 = .ok (.iload_n 1, 1) := by decide +kernel
theorem d312_21 : decode prog_14_method_101_code 21 = .ok (.iaload, 1) := by decide +kernel
theorem d312_22 : decode prog_14_method_101_code 22 = .ok (.iaload, 1) := by decide +kernel
theorem d312_23 : decode prog_14_method_101_code 23 = .ok (.istore_n 3, 1) := by decide +kernel
theorem d312_24 : decode prog_14_method_101_code 24 = .ok (.aload_n 0, 1) := by decide +kernel
theorem d312_25 : decode prog_14_method_101_code 25 = .ok (.getfield 35, 3) := by decide +kernel
theorem d312_28 : decode prog_14_method_101_code 28 = .ok (.iload_n 1, 1) := by decide +kernel
theorem d312_29 : decode prog_14_method_101_code 29 = .ok (.iaload, 1) := by decide +kernel
theorem d312_30 : decode prog_14_method_101_code 30 = .ok (.istore 4, 2) := by decide +kernel
theorem d312_32 : decode prog_14_method_101_code 32 = .ok (.iload_n 2, 1) := by decide +kernel
theorem d312_33 : decode prog_14_method_101_code 33 = .ok (.ifCond .le 11, 3) := by decide +kernel
theorem d312_36 : decode prog_14_method_101_code 36 = .ok (.iload_n 3, 1) := by decide +kernel
theorem d312_37 : decode prog_14_method_101_code 37 = .ok (.ifCond .le 7, 3) := by decide +kernel
theorem d312_40 : decode prog_14_method_101_code 40 = .ok (.iconst 1, 1) := by decide +kernel
theorem d312_41 : decode prog_14_method_101_code 41 = .ok (.goto 4, 3) := by decide +kernel
theorem d312_44 : decode prog_14_method_101_code 44 = .ok (.iconst 0, 1) := by decide +kernel
theorem d312_45 : decode prog_14_method_101_code 45 = .ok (.istore 5, 2) := by decide +kernel
theorem d312_47 : decode prog_14_method_101_code 47 = .ok (.iload_n 2, 1) := by decide +kernel
theorem d312_48 : decode prog_14_method_101_code 48 = .ok (.ifCond .ne 11, 3) := by decide +kernel
theorem d312_51 : decode prog_14_method_101_code 51 = .ok (.iload_n 3, 1) := by decide +kernel
theorem d312_52 : decode prog_14_method_101_code 52 = .ok (.ifCond .ne 7, 3) := by decide +kernel
theorem d312_55 : decode prog_14_method_101_code 55 = .ok (.iconst 1, 1) := by decide +kernel
theorem d312_56 : decode prog_14_method_101_code 56 = .ok (.goto 4, 3) := by decide +kernel
theorem d312_59 : decode prog_14_method_101_code 59 = .ok (.iconst 0, 1) := by decide +kernel
theorem d312_60 : decode prog_14_method_101_code 60 = .ok (.istore 6, 2) := by decide +kernel
theorem d312_62 : decode prog_14_method_101_code 62 = .ok (.iload 5, 2) := by decide +kernel
theorem d312_64 : decode prog_14_method_101_code 64 = .ok (.ifCond .ne 14, 3) := by decide +kernel
theorem d312_67 : decode prog_14_method_101_code 67 = .ok (.iload 6, 2) := by decide +kernel
theorem d312_69 : decode prog_14_method_101_code 69 = .ok (.ifCond .eq 13, 3) := by decide +kernel
theorem d312_72 : decode prog_14_method_101_code 72 = .ok (.iload 4, 2) := by decide +kernel
theorem d312_74 : decode prog_14_method_101_code 74 = .ok (.iconst 5, 1) := by decide +kernel
theorem d312_75 : decode prog_14_method_101_code 75 = .ok (.if_icmp .ge 7, 3) := by decide +kernel
theorem d312_78 : decode prog_14_method_101_code 78 = .ok (.iconst 1, 1) := by decide +kernel
theorem d312_79 : decode prog_14_method_101_code 79 = .ok (.goto 4, 3) := by decide +kernel
theorem d312_82 : decode prog_14_method_101_code 82 = .ok (.iconst 0, 1) := by decide +kernel
theorem d312_83 : decode prog_14_method_101_code 83 = .ok (.istore 7, 2) := by decide +kernel
theorem d312_85 : decode prog_14_method_101_code 85 = .ok (.aload_n 0, 1) := by decide +kernel
theorem d312_86 : decode prog_14_method_101_code 86 = .ok (.getfield 50, 3) := by decide +kernel
theorem d312_89 : decode prog_14_method_101_code 89 = .ok (.iload_n 1, 1) := by decide +kernel
theorem d312_90 : decode prog_14_method_101_code 90 = .ok (.iload 4, 2) := by decide +kernel
theorem d312_92 : decode prog_14_method_101_code 92 = .ok (.iconst 2, 1) := by decide +kernel
theorem d312_93 : decode prog_14_method_101_code 93 = .ok (.if_icmp .le 14, 3) := by decide +kernel
theorem d312_96 : decode prog_14_method_101_code 96 = .ok (.iload 4, 2) := by decide +kernel
theorem d312_98 : decode prog_14_method_101_code 98 = .ok (.bipush 9, 2) := by decide +kernel
theorem d312_100 : decode prog_14_method_101_code 100 = .ok (.if_icmp .ge 7, 3) := by decide +kernel
theorem d312_103 : decode prog_14_method_101_code 103 = .ok (.iconst 0, 1) := by decide +kernel
theorem d312_104 : decode prog_14_method_101_code 104 = .ok (.goto 8, 3) := by decide +kernel
theorem d312_107 : decode prog_14_method_101_code 107 = .ok (.iload_n 2, 1) := by decide +kernel
theorem d312_108 : decode prog_14_method_101_code 108 = .ok (.iload_n 3, 1) := by decide +kernel
theorem d312_109 : decode prog_14_method_101_code 109 = .ok (.invokestatic 605, 3) := by decide +kernel
theorem d312_112 : decode prog_14_method_101_code 112 = .ok (.iastore, 1) := by decide +kernel
theorem d312_113 : decode prog_14_method_101_code 113 = .ok (.iload 7, 2) := by decide +kernel
theorem d312_115 : decode prog_14_method_101_code 115 = .ok (.ifCond .eq 7, 3) := by decide +kernel
theorem d312_118 : decode prog_14_method_101_code 118 = .ok (.iconst 0, 1) := by decide +kernel
theorem d312_119 : decode prog_14_method_101_code 119 = .ok (.goto 5, 3) := by decide +kernel
theorem d312_122 : decode prog_14_method_101_code 122 = .ok (.bipush 27, 2) := by decide +kernel
theorem d312_124 : decode prog_14_method_101_code 124 = .ok (.ireturn, 1) := by decide +kernel
theorem m312 : pm_m 312 = some (⟨"TypeRulesModel", "twoRule", "(I)I"⟩, prog_14_method_101_code, 8, (some FieldType.int), 10, 1, 11) := rfl
theorem d313_0 : decode prog_14_method_102_code 0 = .ok (.aload_n 0, 1) := by decide +kernel
theorem d313_1 : decode prog_14_method_102_code 1 = .ok (.getfield 50, 3) := by decide +kernel
theorem d313_4 : decode prog_14_method_102_code 4 = .ok (.iload_n 1, 1) := by decide +kernel
theorem d313_5 : decode prog_14_method_102_code 5 = .ok (.aload_n 0, 1) := by decide +kernel
theorem d313_6 : decode prog_14_method_102_code 6 = .ok (.getfield 50, 3) := by decide +kernel
theorem d313_9 : decode prog_14_method_102_code 9 = .ok (.aload_n 0, 1) := by decide +kernel
theorem d313_10 : decode prog_14_method_102_code 10 = .ok (.getfield 38, 3) := by decide +kernel
theorem d313_13 : decode prog_14_method_102_code 13 = .ok (.iload_n 1, 1) := by decide +kernel
theorem d313_14 : decode prog_14_method_102_code 14 = .ok (.iaload, 1) := by decide +kernel
theorem d313_15 : decode prog_14_method_102_code 15 = .ok (.iaload, 1) := by decide +kernel
theorem d313_16 : decode prog_14_method_102_code 16 = .ok (.iastore, 1) := by decide +kernel
theorem d313_17 : decode prog_14_method_102_code 17 = .ok (.aload_n 0, 1) := by decide +kernel
theorem d313_18 : decode prog_14_method_102_code 18 = .ok (.getfield 35, 3) := by decide +kernel
theorem d313_21 : decode prog_14_method_102_code 21 = .ok (.iload_n 1, 1) := by decide +kernel
theorem d313_22 : decode prog_14_method_102_code 22 = .ok (.iaload, 1) := by decide +kernel
theorem d313_23 : decode prog_14_method_102_code 23 = .ok (.ifCond .ne 17, 3) := by decide +kernel
theorem d313_26 : decode prog_14_method_102_code 26 = .ok (.aload_n 0, 1) := by decide +kernel
theorem d313_27 : decode prog_14_method_102_code 27 = .ok (.getfield 50, 3) := by decide +kernel
theorem d313_30 : decode prog_14_method_102_code 30 = .ok (.iload_n 1, 1) := by decide +kernel
theorem d313_31 : decode prog_14_method_102_code 31 = .ok (.iaload, 1) := by decide +kernel
theorem d313_32 : decode prog_14_method_102_code 32 = .ok (.ifCond .ne 8, 3) := by decide +kernel
theorem d313_35 : decode prog_14_method_102_code 35 = .ok (.bipush 28, 2) := by decide +kernel
theorem d313_37 : decode prog_14_method_102_code 37 = .ok (.goto 4, 3) := by decide +kernel
theorem d313_40 : decode prog_14_method_102_code 40 = .ok (.iconst 0, 1) := by decide +kernel
theorem d313_41 : decode prog_14_method_102_code 41 = .ok (.ireturn, 1) := by decide +kernel
theorem m313 : pm_m 313 = some (⟨"TypeRulesModel", "oneRule", "(I)I"⟩, prog_14_method_102_code, 2, (some FieldType.int), 10, 1, 11) := rfl
/-! EXPRESSIONS of the reference -/
def rr_Q (l : List pg_N) (a : Nat → Nat) (R : Int32 → Int32 → Prop) (σ0 : pm_S) (fl : Bool) (u : Nat) (r : Nat × rl_A) (Q : Option Value → pm_S → Prop) : Prop := ∀ σ', rr_F σ0 σ' → (r.1 = 0 → rr_I l a R σ0 σ' fl u r.2) → Q (some (.int (nI r.1))) σ'
theorem rr_Fi {l : List pg_N} {a : Nat → Nat} {R : Int32 → Int32 → Prop} {σ0 σ : pm_S} {fl : Bool} {u : Nat} {A : rl_A} (h : rr_I l a R σ0 σ fl u A) : rr_F σ0 σ := h.2.2.1
/-- no fault -/
theorem rr_q0 {l : List pg_N} {a : Nat → Nat} {R : Int32 → Int32 → Prop} {σ0 σ : pm_S} {fl : Bool} {u n : Nat} {A : rl_A} {Q : Option Value → pm_S → Prop} (hQ : rr_Q l a R σ0 fl u (n, A) Q) (h : rr_I l a R σ0 σ fl u A) (hn : n = 0) : Q (some (.int 0)) σ := by
  subst hn; exact hQ σ h.2.2.1 (fun _ => h)
theorem rr_q1 {l : List pg_N} {a : Nat → Nat} {R : Int32 → Int32 → Prop} {σ0 σ : pm_S} {fl : Bool} {u k n : Nat} {A : rl_A} {Q : Option Value → pm_S → Prop} (hQ : rr_Q l a R σ0 fl u (n, A) Q) (h : rr_F σ0 σ) (hn : n = k) (hk : k ≠ 0) : Q (some (.int (nI k))) σ := by
  subst hn; exact hQ σ h (fun z => absurd z hk)
theorem nI_ml (a b : Nat) : nI a * nI b = nI (a * b) := (Int32.ofNat_mul a b).symm
theorem nI_ad (a b : Nat) : nI a + nI b = nI (a + b) := (Int32.ofNat_add a b).symm
theorem nI_dv {a b : Nat} (ha : a < 2 ^ 31) (hb : b < 2 ^ 31) : nI a / nI b = nI (a / b) := Int32.toInt_inj.mp (by
  have := Nat.div_le_self a b
  rw [Int32.toInt_div, nI_toInt ha, nI_toInt hb, nI_toInt (by omega), ← Int.ofNat_tdiv]
  generalize a / b = c at this ⊢
  exact Int.bmod_eq_of_le (by omega) (by omega))
theorem nI_rm {a b : Nat} (ha : a < 2 ^ 31) (hb : b < 2 ^ 31) : nI a - nI a / nI b * nI b = nI (a % b) := by
  rw [nI_dv ha hb, nI_ml, nI_sbl (Nat.div_mul_le_self a b)]
  congr 1
  have := Nat.div_add_mod a b
  rw [Nat.mul_comm] at this
  omega
theorem rv_sum (k t c : Nat) : nI k + nI 10 * nI t + nI 1000 * nI c = nI (k + 10 * t + 1000 * c) := by rw [nI_ml, nI_ml, nI_ad, nI_ad]
theorem rl_numT {t : Int32} (h : pv_T t) : rl_num t = decide (0 < t.toInt) := by
  rcases h with h | h | h <;> rw [h] <;> decide
/-- a pin as the reference writes it -/
def rv_N (q p t c : Nat) : Nat := (if p = 1 then 100 else 0) + 10 * t + (if q < 9 then c else 1000 * c)
def rv_P (q : Nat) : Option (Nat × Int32 × Nat) → Int32
  | none => -1
  | some (p, t, c) => if p = 0 then -1 else nI (rv_N q p t.toNatClampNeg c)
theorem rv_std : ∀ s, s < 9 → ∀ v, v < 75 → nq_pin s v = rv_P s (rl_pin [] s (nI v)) := by decide +kernel
theorem rv_pl : ∀ r ∈ rl_pins, r.2.1.toInt < 75 := by decide +kernel
theorem rv_pt : ∀ r ∈ rl_pins, r.2.2.1 ≤ 2 ∧ (r.2.2.2.1 = 0 ∨ r.2.2.2.1 = 1 ∨ r.2.2.2.1 = 2) ∧ r.2.2.2.2 < 10 := by decide +kernel
theorem rv_sp {B : List rl_B} {s : Nat} {x : Int32} (hs : s < 9) (hx : 0 ≤ x.toInt) : nq_pin s x.toNatClampNeg = rv_P s (rl_pin B s x) := by
  have e : rl_pin B s x = rl_pin [] s x := by unfold rl_pin; rw [if_pos hs, if_pos hs]
  rw [e]
  by_cases q : x.toNatClampNeg < 75
  · have := rv_std s hs _ q
    rw [nI_cl x hx] at this
    exact this
  · have cx := cl_i x hx
    have e2 : rl_pin [] s x = none := by
      unfold rl_pin
      rw [if_pos hs, List.find?_eq_none.mpr (fun r hr => ?_)]
      · rfl
      · rw [decide_eq_true_eq]
        rintro ⟨_, w⟩
        have := rv_pl r hr
        rw [w] at this
        omega
    rw [e2]
    generalize x.toNatClampNeg = v at q
    unfold nq_pin
    simp only [show ¬ v = 60 by omega, show ¬ v = 61 by omega, show ¬ v = 62 by omega, show ¬ v = 63 by omega, show ¬ v = 64 by omega, show ¬ v = 65 by omega, show ¬ v = 66 by omega, show ¬ v = 67 by omega, show ¬ v = 68 by omega, show ¬ v = 69 by omega, show ¬ v = 70 by omega, show ¬ v = 71 by omega, show ¬ v = 72 by omega, show ¬ v = 73 by omega, show ¬ v = 74 by omega, if_false, ite_self]
    rfl
theorem rl_blke {B : List rl_B} {b : Nat} (h : b < B.length) : ∃ y, rl_blk B b = some y := by
  unfold rl_blk
  exact ⟨_, List.getElem?_eq_getElem (by rw [List.length_reverse]; exact h)⟩
/-- what a pin is -/
theorem rv_pin {B : List rl_B} {q p c : Nat} {x t : Int32} (hp : pv_B B) (hq : q < 9 + B.tail.length) (e : rl_pin B q x = some (p, t, c)) (h0 : p ≠ 0) : p ≤ 2 ∧ pv_T t ∧ c ≤ 4096 ∧ (q < 9 → c < 10) := by
  unfold rl_pin at e
  by_cases w : q < 9
  · rw [if_pos w] at e
    obtain ⟨r, r1, r2⟩ := Option.map_eq_some_iff.mp e
    have := rv_pt r (List.mem_of_find?_eq_some r1)
    cases r2
    exact ⟨this.1, this.2.1, by omega, fun _ => this.2.2⟩
  · rw [if_neg w] at e
    rw [List.length_tail] at hq
    obtain ⟨y, hy⟩ := rl_blke (B := B) (b := q - 9) (by omega)
    rw [hy] at e
    obtain ⟨v, v1, v2⟩ := Option.map_eq_some_iff.mp e
    obtain ⟨r, _, hY⟩ := pv_blk hp hy
    have hd := pv_dn hp hy (by omega)
    have mv := rl_find_m v1
    obtain ⟨a1, a2, a3, a4, a5, a6, a7⟩ := hY.2.2.2.2.1 v mv
    cases v2
    rcases a7 h0 with z | z
    · exact ⟨a2, a3 (by omega), a5, fun z => absurd z w⟩
    · exact absurd z (hd.1 v mv)
theorem rv_Tn {t : Int32} (h : pv_T t) : t = nI t.toNatClampNeg ∧ t.toNatClampNeg ≤ 2 := by
  rcases h with h | h | h <;> rw [h] <;> decide
/-- and how it is read -/
theorem rv_Pd {q p c : Nat} {t : Int32} (h0 : p ≠ 0) (hp : p ≤ 2) (ht : pv_T t) (hc : c ≤ 4096) (hq : q < 9 → c < 10) : ∃ N, rv_P q (some (p, t, c)) = nI N ∧ N < 2 ^ 24 ∧ N / 100 % 10 = (if p = 1 then 1 else 0) ∧ nI (N / 10 % 10) = t ∧ (if q < 9 then N % 10 else N / 1000) = c := by
  obtain ⟨t1, t2⟩ := rv_Tn ht
  generalize t.toNatClampNeg = n at t1 t2
  have en : t.toNatClampNeg = n := by rw [t1, nI_clamp (by omega)]
  refine ⟨rv_N q p n c, ?_, ?_⟩
  · show (if p = 0 then -1 else nI (rv_N q p t.toNatClampNeg c)) = _
    rw [if_neg h0, en]
  · unfold rv_N
    rcases Nat.lt_or_ge q 9 with w | w
    · have := hq w
      simp only [if_pos w]
      rcases (show p = 1 ∨ p = 2 by omega) with z | z <;> subst z
      · rw [if_pos rfl, if_pos rfl]
        refine ⟨by omega, by omega, ?_, by omega⟩
        rw [t1]; congr 1; omega
      · rw [if_neg (by decide), if_neg (by decide)]
        refine ⟨by omega, by omega, ?_, by omega⟩
        rw [t1]; congr 1; omega
    · simp only [if_neg (show ¬ q < 9 by omega)]
      rcases (show p = 1 ∨ p = 2 by omega) with z | z <;> subst z
      · rw [if_pos rfl, if_pos rfl]
        refine ⟨by omega, by omega, ?_, by omega⟩
        rw [t1]; congr 1; omega
      · rw [if_neg (by decide), if_neg (by decide)]
        refine ⟨by omega, by omega, ?_, by omega⟩
        rw [t1]; congr 1; omega
theorem re296 {d : Nat} {σ : pm_S} {Q : Option Value → pm_S → Prop} {q N c : Nat} (hN : N < 2 ^ 24) (hq : q < 5000) (hc : (if q < 9 then N % 10 else N / 1000) = c) (hQ : Q (some (.int (nI c))) σ) : pm_call pm_Y0 (d + 1) 296 [.int (nI N), .int (rv_q q)] σ Q := by
  by_cases w : q < 9
  · rw [if_pos w] at hc
    have eq : rv_q q = nI (10100 + q) := if_pos w
    have et := nI_toInt (n := 10100 + q) (by omega)
    rw [eq]
    refine wq_m m296 (Nat.le_of_ble_eq_true rfl) (by decide) rfl ?_
    refine wq_l 1 d296_0 rfl rfl rfl rfl ?_
    refine wq_k 4 10000 d296_1 (by decide) rfl ?_
    refine wq_b 14 7 d296_4 rfl (by decide) rfl (fun c4 => absurd c4 (by rw [i_lt, et]; show ¬ _ < (10000 : Int); omega)) (fun c4 => ?_)
    refine wq_l 8 d296_7 rfl rfl rfl rfl ?_
    refine wq_k 10 10 d296_8 (by decide) rfl ?_
    refine wq_dv 11 d296_10 rfl rfl (by decide) ?_
    refine wq_g 19 d296_11 (by decide) ?_
    refine wq_ri d296_19 (rfl) ?_
    rw [show nI N - nI N / 10 * 10 = nI (N % 10) from nI_rm (b := 10) (by omega) (by decide), hc]
    exact hQ
  · rw [if_neg w] at hc
    have eq : rv_q q = nI (q - 9) := if_neg w
    have et := nI_toInt (n := q - 9) (by omega)
    rw [eq]
    refine wq_m m296 (Nat.le_of_ble_eq_true rfl) (by decide) rfl ?_
    refine wq_l 1 d296_0 rfl rfl rfl rfl ?_
    refine wq_k 4 10000 d296_1 (by decide) rfl ?_
    refine wq_b 14 7 d296_4 rfl (by decide) rfl (fun c4 => ?_) (fun c4 => absurd (by rw [i_lt, et]; show _ < (10000 : Int); omega) c4)
    refine wq_l 15 d296_14 rfl rfl rfl rfl ?_
    refine wq_k 18 1000 d296_15 (by decide) rfl ?_
    refine wq_dv 19 d296_18 rfl rfl (by decide) ?_
    refine wq_ri d296_19 (rfl) ?_
    rw [show nI N / 1000 = nI (N / 1000) from nI_dv (b := 1000) (by omega) (by decide), hc]
    exact hQ
theorem re294 {d : Nat} {l : List pg_N} {a : Nat → Nat} {R : Int32 → Int32 → Prop} {σ0 σ : pm_S} {fl : Bool} {u : Nat} {A : rl_A} {Q : Option Value → pm_S → Prop} {i q : Nat} {v : rl_V} {x r : Int32} (h : rr_I l a R σ0 σ fl u A) (hp : pv_B A.1) (hi : (rv_L A.1)[i]? = some v) (hl : i < 4096) (hs : v.2.1 = 2) (hv : v.2.2.1 = nI q) (hq : q < 9 + A.1.tail.length) (hR : R x r) (hQ : Q (some (.int (rv_P q (rl_pin A.1 q x)))) σ) : pm_call pm_Y0 (d + 2) 294 [.ref 10, .int (nI i), .int r] σ Q := by
  have hB9 := h.2.2.2.2.1.1
  have hq2 := hq
  rw [List.length_tail] at hq2
  obtain ⟨r1, r2, r3, r4⟩ := (rr_R h).2 x r hR
  have ei := nI_toInt (n := i) (by omega)
  have ec := nI_clamp (n := i) (by omega)
  have s2 := ((h.2.2.2.2.2.1.2.2) i v hi).2.1 (by omega)
  have ty : σ.2.2 71 i = rv_q q := by rw [s2.2.1]; unfold rv_t; rw [if_pos hs, hv, nI_clamp (by omega)]
  by_cases w : q < 9
  · have eq : rv_q q = nI (10100 + q) := if_pos w
    have et := nI_toInt (n := 10100 + q) (by omega)
    rw [eq] at ty
    rw [← rv_sp w r1] at hQ
    refine wq_m m294 (Nat.le_of_ble_eq_true rfl) (by decide) rfl ?_
    refine wq_l 1 d294_0 rfl rfl rfl rfl ?_
    refine wq_gr (ci := 10) (j := 44) (q := 71) 4 d294_1 rfl rfl rfl rfl ?_
    refine wq_l 5 d294_4 rfl rfl rfl rfl ?_
    refine wq_al 6 d294_5 rfl rfl rfl (vp_in_iff.mpr (by rw [ei]; omega)) ?_
    rw [ec, ty]
    refine wq_k 9 10000 d294_6 (by decide) rfl ?_
    refine wq_b 28 12 d294_9 rfl (by decide) rfl (fun c9 => absurd c9 (by rw [i_lt, et]; show ¬ _ < (10000 : Int); omega)) (fun c9 => ?_)
    refine wq_l 13 d294_12 rfl rfl rfl rfl ?_
    refine wq_gr (ci := 10) (j := 44) (q := 71) 16 d294_13 rfl rfl rfl rfl ?_
    refine wq_l 17 d294_16 rfl rfl rfl rfl ?_
    refine wq_al 18 d294_17 rfl rfl rfl (vp_in_iff.mpr (by rw [ei]; omega)) ?_
    rw [ec, ty]
    refine wq_l 19 d294_18 rfl rfl rfl rfl ?_
    refine wq_gr (ci := 10) (j := 13) (q := 47) 22 d294_19 rfl rfl rfl rfl ?_
    refine wq_l 23 d294_22 rfl rfl rfl rfl ?_
    refine wq_ll 24 d294_23 rfl rfl (vp_in_iff.mpr ⟨r2, r3⟩) ?_
    refine wq_vs 27 [_, _] d294_24 rfl rfl m295 rfl (Nat.le_of_ble_eq_true rfl) rfl (sp295 (v := x.toNatClampNeg) w r4 ?_)
    refine wq_ri d294_27 (rfl) ?_
    exact hQ
  · have eq : rv_q q = nI (q - 9) := if_neg w
    have et := nI_toInt (n := q - 9) (by omega)
    rw [eq] at ty
    obtain ⟨y, hy⟩ := rl_blke (B := A.1) (b := q - 9) (by omega)
    obtain ⟨r', _, hY⟩ := pv_blk hp hy
    have hd := pv_dn hp hy (by omega)
    have ep : rl_pin A.1 q x = (rl_find y.2.2.2.2 x).map (fun v => (v.2.2.2.1, v.2.2.1, v.2.2.2.2.2)) := by
      unfold rl_pin; rw [if_neg w, hy]
    rw [ep] at hQ
    refine wq_m m294 (Nat.le_of_ble_eq_true rfl) (by decide) rfl ?_
    refine wq_l 1 d294_0 rfl rfl rfl rfl ?_
    refine wq_gr (ci := 10) (j := 44) (q := 71) 4 d294_1 rfl rfl rfl rfl ?_
    refine wq_l 5 d294_4 rfl rfl rfl rfl ?_
    refine wq_al 6 d294_5 rfl rfl rfl (vp_in_iff.mpr (by rw [ei]; omega)) ?_
    rw [ec, ty]
    refine wq_k 9 10000 d294_6 (by decide) rfl ?_
    refine wq_b 28 12 d294_9 rfl (by decide) rfl (fun c9 => ?_) (fun c9 => absurd (by rw [i_lt, et]; show _ < (10000 : Int); omega) c9)
    refine wq_l 29 d294_28 rfl rfl rfl rfl ?_
    refine wq_gr (ci := 10) (j := 44) (q := 71) 32 d294_29 rfl rfl rfl rfl ?_
    refine wq_l 33 d294_32 rfl rfl rfl rfl ?_
    refine wq_al 34 d294_33 rfl rfl rfl (vp_in_iff.mpr (by rw [ei]; omega)) ?_
    rw [ec, ty]
    refine wq_s 35 d294_34 rfl rfl (Nat.le_of_ble_eq_true rfl) rfl rfl ?_
    refine wq_l 36 d294_35 rfl rfl rfl rfl ?_
    refine wq_l 37 d294_36 rfl rfl rfl rfl ?_
    refine wq_l 38 d294_37 rfl rfl rfl rfl ?_
    refine wq_v 41 [_, _] d294_38 rfl rfl m284 rfl rfl (Nat.le_of_ble_eq_true rfl) rfl (re284 h hy hY.2.2.2.2.2 hR (fun e2 => ?_) (fun i2 v2 e2 f2 g2 => ?_))
    · -- fork 38
      rw [e2] at hQ
      refine wq_s 43 d294_41 rfl rfl (Nat.le_of_ble_eq_true rfl) rfl rfl ?_
      refine wq_l 45 d294_43 rfl rfl rfl rfl ?_
      refine wq_b 58 48 d294_45 rfl (by decide) rfl (fun c45 => ?_) (fun c45 => absurd (by decide) c45)
      refine wq_k 59 (-1) d294_58 (by decide) rfl ?_
      refine wq_ri d294_59 (rfl) ?_
      exact hQ
    · -- fork 38
      rw [e2] at hQ
      have hQ : Q (some (.int (if v2.2.2.2.1 = 0 then -1 else nI (rv_N q v2.2.2.2.1 v2.2.2.1.toNatClampNeg v2.2.2.2.2.2)))) σ := hQ
      have m2 := rl_find_m e2
      have s2 := ((h.2.2.2.2.2.1.2.2) i2 v2 f2).2.1 (hd.1 v2 m2)
      have ei := nI_toInt (n := i2) (by omega)
      have ec := nI_clamp (n := i2) (by omega)
      obtain ⟨a1, a2, a3, a4, a5, a6, a7⟩ := hY.2.2.2.2.1 v2 m2
      refine wq_s 43 d294_41 rfl rfl (Nat.le_of_ble_eq_true rfl) rfl rfl ?_
      refine wq_l 45 d294_43 rfl rfl rfl rfl ?_
      refine wq_b 58 48 d294_45 rfl (by decide) rfl (fun c45 => absurd c45 (by rw [i_lt, ei]; show ¬ (i2 : Int) < 0; omega)) (fun c45 => ?_)
      refine wq_l 49 d294_48 rfl rfl rfl rfl ?_
      refine wq_gr (ci := 10) (j := 45) (q := 72) 52 d294_49 rfl rfl rfl rfl ?_
      refine wq_l 54 d294_52 rfl rfl rfl rfl ?_
      refine wq_al 55 d294_54 rfl rfl rfl (vp_in_iff.mpr (by rw [ei]; omega)) ?_
      rw [ec, s2.2.2.1]
      refine wq_b 60 58 d294_55 rfl (by decide) rfl (fun c55 => ?_) (fun c55 => ?_)
      · -- pc 60
        have n0 : v2.2.2.2.1 ≠ 0 := fun z => c55 (by rw [z]; rfl)
        have tt : v2.2.1 = 0 := (a7 n0).resolve_right (hd.1 v2 m2)
        have tv : rv_t v2 = v2.2.2.1 := by unfold rv_t; rw [if_neg (by rw [tt]; decide)]
        obtain ⟨t1, t2⟩ := rv_Tn (a3 (by omega))
        refine wq_l 61 d294_60 rfl rfl rfl rfl ?_
        refine wq_gr (ci := 10) (j := 45) (q := 72) 64 d294_61 rfl rfl rfl rfl ?_
        refine wq_l 66 d294_64 rfl rfl rfl rfl ?_
        refine wq_al 67 d294_66 rfl rfl rfl (vp_in_iff.mpr (by rw [ei]; omega)) ?_
        rw [ec, s2.2.2.1]
        refine wq_k 68 1 d294_67 (by decide) rfl ?_
        refine wq_b 76 71 d294_68 rfl (by decide) rfl (fun c68 => ?_) (fun c68 => ?_)
        · -- pc 76
          refine wq_k 77 0 d294_76 (by decide) rfl ?_
          refine wq_k 79 10 d294_77 (by decide) rfl ?_
          refine wq_l 80 d294_79 rfl rfl rfl rfl ?_
          refine wq_gr (ci := 10) (j := 44) (q := 71) 83 d294_80 rfl rfl rfl rfl ?_
          refine wq_l 85 d294_83 rfl rfl rfl rfl ?_
          refine wq_al 86 d294_85 rfl rfl rfl (vp_in_iff.mpr (by rw [ei]; omega)) ?_
          rw [ec, s2.2.1, tv]
          refine wq_a 87 d294_86 rfl rfl ?_
          refine wq_a 88 d294_87 rfl rfl ?_
          refine wq_k 91 1000 d294_88 (by decide) rfl ?_
          refine wq_l 92 d294_91 rfl rfl rfl rfl ?_
          refine wq_gr (ci := 10) (j := 47) (q := 74) 95 d294_92 rfl rfl rfl rfl ?_
          refine wq_l 97 d294_95 rfl rfl rfl rfl ?_
          refine wq_al 98 d294_97 rfl rfl rfl (vp_in_iff.mpr (by rw [ei]; omega)) ?_
          rw [ec, s2.2.2.2.2]
          refine wq_a 99 d294_98 rfl rfl ?_
          refine wq_a 100 d294_99 rfl rfl ?_
          refine wq_ri d294_100 (rfl) ?_
          have n1 : ¬ v2.2.2.2.1 = 1 := fun z => c68 (by rw [z]; rfl)
          rw [if_neg n0] at hQ
          unfold rv_N at hQ
          rw [if_neg w, if_neg n1] at hQ
          rw [t1]
          rw [show (0 : Int32) + 10 * nI v2.2.2.1.toNatClampNeg + 1000 * nI v2.2.2.2.2.2 = nI (0 + 10 * v2.2.2.1.toNatClampNeg + 1000 * v2.2.2.2.2.2) from rv_sum 0 _ _]
          exact hQ
        · -- pc 71
          refine wq_k 73 100 d294_71 (by decide) rfl ?_
          refine wq_g 77 d294_73 (by decide) ?_
          refine wq_k 79 10 d294_77 (by decide) rfl ?_
          refine wq_l 80 d294_79 rfl rfl rfl rfl ?_
          refine wq_gr (ci := 10) (j := 44) (q := 71) 83 d294_80 rfl rfl rfl rfl ?_
          refine wq_l 85 d294_83 rfl rfl rfl rfl ?_
          refine wq_al 86 d294_85 rfl rfl rfl (vp_in_iff.mpr (by rw [ei]; omega)) ?_
          rw [ec, s2.2.1, tv]
          refine wq_a 87 d294_86 rfl rfl ?_
          refine wq_a 88 d294_87 rfl rfl ?_
          refine wq_k 91 1000 d294_88 (by decide) rfl ?_
          refine wq_l 92 d294_91 rfl rfl rfl rfl ?_
          refine wq_gr (ci := 10) (j := 47) (q := 74) 95 d294_92 rfl rfl rfl rfl ?_
          refine wq_l 97 d294_95 rfl rfl rfl rfl ?_
          refine wq_al 98 d294_97 rfl rfl rfl (vp_in_iff.mpr (by rw [ei]; omega)) ?_
          rw [ec, s2.2.2.2.2]
          refine wq_a 99 d294_98 rfl rfl ?_
          refine wq_a 100 d294_99 rfl rfl ?_
          refine wq_ri d294_100 (rfl) ?_
          have n1 : v2.2.2.2.1 = 1 := hp_inj (b := 1) (by omega) (by decide) (Classical.not_not.mp c68)
          rw [if_neg n0] at hQ
          unfold rv_N at hQ
          rw [if_neg w, if_pos n1] at hQ
          rw [t1]
          rw [show (100 : Int32) + 10 * nI v2.2.2.1.toNatClampNeg + 1000 * nI v2.2.2.2.2.2 = nI (100 + 10 * v2.2.2.1.toNatClampNeg + 1000 * v2.2.2.2.2.2) from rv_sum 100 _ _]
          exact hQ
      · -- pc 58
        refine wq_k 59 (-1) d294_58 (by decide) rfl ?_
        refine wq_ri d294_59 (rfl) ?_
        rw [if_pos (hp_inj (b := 0) (by omega) (by decide) (Classical.not_not.mp c55))] at hQ
        exact hQ
/-- the last child -/
theorem rt_l {l : List pg_N} {a : Nat → Nat} {R : Int32 → Int32 → Prop} {σ : pm_S} (h : rs_T l a R σ) {i j : Nat} (hi : i < l.length) (hj : (rl_c l i).getLast? = some j) : σ.2.2 53 (nI (a i)).toNatClampNeg = nI (a j) := by
  rw [rt_c h hi, (h.2.2.1 i hi).2.2.2.2.2.1, hj]; rfl
theorem re305 {d : Nat} {l : List pg_N} {a : Nat → Nat} {R : Int32 → Int32 → Prop} {σ0 σ : pm_S} {fl : Bool} {u : Nat} {A : rl_A} {Q : Option Value → pm_S → Prop} {NN i : Nat} (hG : lg_G l NN) (h : rr_I l a R σ0 σ fl u A) (hp : pv_B A.1) (hB : A.1 ≠ []) (hs : rl_setl A) (hi : i + 1 < l.length) (hz : i + 1 < i + rl_z l i) (hk : rp_nk (rl_k l i) = true) (ht : pv_T (A.2.1 (i + 1))) (hQ : rr_Q l a R σ0 fl u (if rl_srt A (rl_v l i) 1 ≠ 0 then rl_srt A (rl_v l i) 1 else if rl_num (A.2.1 (i + 1)) = true then 0 else 22, rl_ce (rl_ty A i (rl_var A (rl_v l i)).2.2.1) i (nI (rl_var A (rl_v l i)).2.2.2.2.2)) Q) : pm_call pm_Y0 (d + 4) 305 [.ref 10, .int (nI (a i))] σ Q := by
  have i0 : i < l.length := by omega
  have hR := rt_R (rr_T h) i0 hk
  have bi := rt_b (rr_T h) i0
  have em := rt_m (rr_T h) i0
  have sl := rl_srtl (A := A) (x := rl_v l i) (s := 1)
  have es := nI_toInt (n := rl_srt A (rl_v l i) 1) (by omega)
  have ef := (rt_f (rr_T h) hG i0).trans (if_pos hz)
  by_cases e0 : rl_srt A (rl_v l i) 1 = 0
  · rw [if_neg (fun z => z e0)] at hQ
    refine wq_m m305 (Nat.le_of_ble_eq_true rfl) (by decide) rfl ?_
    refine wq_l 1 d305_0 rfl rfl rfl rfl ?_
    refine wq_l 2 d305_1 rfl rfl rfl rfl ?_
    refine wq_gr (ci := 10) (j := 18) (q := 51) 5 d305_2 rfl rfl rfl rfl ?_
    refine wq_l 6 d305_5 rfl rfl rfl rfl ?_
    refine wq_al 7 d305_6 rfl rfl rfl (bi) ?_
    rw [em]
    refine wq_k 8 1 d305_7 (by decide) rfl ?_
    refine wq_v 11 [_, _] d305_8 rfl rfl m292 rfl rfl (Nat.le_of_ble_eq_true rfl) rfl (re292 h hp hB hs (s := 1) (by decide) hR ?_)
    refine wq_s 12 d305_11 rfl rfl (Nat.le_of_ble_eq_true rfl) rfl rfl ?_
    refine wq_l 13 d305_12 rfl rfl rfl rfl ?_
    refine wq_b 34 16 d305_13 rfl (by decide) rfl (fun c13 => absurd c13 (by rw [e0]; decide)) (fun c13 => ?_)
    refine wq_l 17 d305_16 rfl rfl rfl rfl ?_
    refine wq_l 18 d305_17 rfl rfl rfl rfl ?_
    refine wq_gr (ci := 10) (j := 23) (q := 56) 21 d305_18 rfl rfl rfl rfl ?_
    refine wq_l 22 d305_21 rfl rfl rfl rfl ?_
    refine wq_gr (ci := 10) (j := 19) (q := 52) 25 d305_22 rfl rfl rfl rfl ?_
    refine wq_l 26 d305_25 rfl rfl rfl rfl ?_
    refine wq_al 27 d305_26 rfl rfl rfl (bi) ?_
    rw [ef]
    refine wq_al 28 d305_27 rfl rfl rfl (rt_b (rr_T h) hi) ?_
    rw [rt_t h hi]
    refine wq_v 31 [_] d305_28 rfl rfl m306 rfl rfl (Nat.le_of_ble_eq_true rfl) rfl (sp306 ?_)
    rw [← rl_numT ht]
    refine wq_b 45 34 d305_31 rfl (by decide) rfl (fun c31 => ?_) (fun c31 => ?_)
    · -- pc 45
      have f31 := b2n c31
      refine wq_l 46 d305_45 rfl rfl rfl rfl ?_
      refine wq_l 47 d305_46 rfl rfl rfl rfl ?_
      refine wq_gr (ci := 10) (j := 18) (q := 51) 50 d305_47 rfl rfl rfl rfl ?_
      refine wq_l 51 d305_50 rfl rfl rfl rfl ?_
      refine wq_al 52 d305_51 rfl rfl rfl (bi) ?_
      rw [em]
      refine wq_v 55 [_] d305_52 rfl rfl m283 rfl rfl (Nat.le_of_ble_eq_true rfl) rfl (re283 h hp hB hR (fun e2 => ?_) (fun i2 v2 e2 f2 g2 => ?_))
      · -- fork 52
        rw [rl_srn e2] at e0
        exact absurd e0 (by decide)
        -- none
      · -- fork 52
        have m2 := rl_find_m e2
        have s2 := ((h.2.2.2.2.2.1.2.2) i2 v2 f2).2.1 (hs v2 m2)
        have ei := nI_toInt (n := i2) (by omega)
        have ec := nI_clamp (n := i2) (by omega)
        have v1 : v2.2.1 = 1 := Classical.byContradiction (fun z => by rw [rl_sr1 e2 z] at e0; exact absurd e0 (by decide))
        have tv : rv_t v2 = v2.2.2.1 := by unfold rv_t; rw [if_neg (by rw [v1]; decide)]
        rw [rl_vrs e2] at hQ
        refine wq_s 56 d305_55 rfl rfl (Nat.le_of_ble_eq_true rfl) rfl rfl ?_
        refine wq_l 57 d305_56 rfl rfl rfl rfl ?_
        refine wq_gr (ci := 10) (j := 23) (q := 56) 60 d305_57 rfl rfl rfl rfl ?_
        refine wq_l 61 d305_60 rfl rfl rfl rfl ?_
        refine wq_l 62 d305_61 rfl rfl rfl rfl ?_
        refine wq_gr (ci := 10) (j := 44) (q := 71) 65 d305_62 rfl rfl rfl rfl ?_
        refine wq_l 66 d305_65 rfl rfl rfl rfl ?_
        refine wq_al 67 d305_66 rfl rfl rfl (vp_in_iff.mpr (by rw [ei]; omega)) ?_
        rw [ec, s2.2.1, tv]
        refine wq_as 68 d305_67 rfl rfl rfl (bi) ?_
        have h68 := rr_ty h i0 v2.2.2.1
        refine wq_l 69 d305_68 rfl rfl rfl rfl ?_
        refine wq_gr (ci := 10) (j := 24) (q := 57) 72 d305_69 rfl rfl rfl rfl ?_
        refine wq_l 73 d305_72 rfl rfl rfl rfl ?_
        refine wq_l 74 d305_73 rfl rfl rfl rfl ?_
        refine wq_gr (ci := 10) (j := 47) (q := 74) 77 d305_74 rfl rfl rfl rfl ?_
        refine wq_l 78 d305_77 rfl rfl rfl rfl ?_
        refine wq_al 79 d305_78 rfl rfl rfl (vp_in_iff.mpr (by rw [ei]; omega)) ?_
        rw [pm_rne (by decide), ec, s2.2.2.2.2]
        refine wq_as 80 d305_79 rfl rfl rfl (bi) ?_
        have h80 := rr_ce h68 i0 (nI v2.2.2.2.2.2)
        refine wq_k 81 0 d305_80 (by decide) rfl ?_
        refine wq_ri d305_81 (rfl) ?_
        exact rr_q0 hQ h80 (if_pos f31)
    · -- pc 34
      have f31 := b2y c31
      refine wq_l 35 d305_34 rfl rfl rfl rfl ?_
      refine wq_b 42 38 d305_35 rfl (by decide) rfl (fun c35 => ?_) (fun c35 => absurd (by rw [e0]; decide) c35)
      refine wq_k 44 22 d305_42 (by decide) rfl ?_
      refine wq_ri d305_44 (rfl) ?_
      rw [f31] at hQ
      exact rr_q1 (k := 22) hQ (rr_Fi h) (if_neg (by decide)) (by decide)
  · rw [if_pos e0] at hQ
    refine wq_m m305 (Nat.le_of_ble_eq_true rfl) (by decide) rfl ?_
    refine wq_l 1 d305_0 rfl rfl rfl rfl ?_
    refine wq_l 2 d305_1 rfl rfl rfl rfl ?_
    refine wq_gr (ci := 10) (j := 18) (q := 51) 5 d305_2 rfl rfl rfl rfl ?_
    refine wq_l 6 d305_5 rfl rfl rfl rfl ?_
    refine wq_al 7 d305_6 rfl rfl rfl (bi) ?_
    rw [em]
    refine wq_k 8 1 d305_7 (by decide) rfl ?_
    refine wq_v 11 [_, _] d305_8 rfl rfl m292 rfl rfl (Nat.le_of_ble_eq_true rfl) rfl (re292 h hp hB hs (s := 1) (by decide) hR ?_)
    refine wq_s 12 d305_11 rfl rfl (Nat.le_of_ble_eq_true rfl) rfl rfl ?_
    refine wq_l 13 d305_12 rfl rfl rfl rfl ?_
    refine wq_b 34 16 d305_13 rfl (by decide) rfl (fun c13 => ?_) (fun c13 => absurd (by rw [i_lt, es]; show (0 : Int) < _; omega) c13)
    refine wq_l 35 d305_34 rfl rfl rfl rfl ?_
    refine wq_b 42 38 d305_35 rfl (by decide) rfl (fun c35 => absurd c35 (by rw [i_le, es]; show ¬ _ ≤ (0 : Int); omega)) (fun c35 => ?_)
    refine wq_l 39 d305_38 rfl rfl rfl rfl ?_
    refine wq_g 44 d305_39 (by decide) ?_
    refine wq_ri d305_44 (rfl) ?_
    exact rr_q1 hQ (rr_Fi h) rfl e0
theorem re313 {d : Nat} {l : List pg_N} {a : Nat → Nat} {R : Int32 → Int32 → Prop} {σ0 σ : pm_S} {fl : Bool} {u : Nat} {A : rl_A} {Q : Option Value → pm_S → Prop} {NN i : Nat} (hG : lg_G l NN) (h : rr_I l a R σ0 σ fl u A) (hi : i + 1 < l.length) (hz : i + 1 < i + rl_z l i) (hk : rp_nk (rl_k l i) = false) (ht : pv_T (A.2.1 (i + 1))) (hQ : rr_Q l a R σ0 fl u (if rl_v l i = 0 ∧ rl_num (A.2.1 (i + 1)) = false then 28 else 0, rl_ty A i (A.2.1 (i + 1))) Q) : pm_call pm_Y0 (d + 1) 313 [.ref 10, .int (nI (a i))] σ Q := by
  have i0 : i < l.length := by omega
  have bi := rt_b (rr_T h) i0
  have ef := (rt_f (rr_T h) hG i0).trans (if_pos hz)
  have h17 := rr_ty h i0 (A.2.1 (i + 1))
  have hn : rl_num (A.2.1 (i + 1)) = false ↔ A.2.1 (i + 1) = 0 := by rcases ht with q | q | q <;> rw [q] <;> decide
  refine wq_m m313 (Nat.le_of_ble_eq_true rfl) (by decide) rfl ?_
  refine wq_l 1 d313_0 rfl rfl rfl rfl ?_
  refine wq_gr (ci := 10) (j := 23) (q := 56) 4 d313_1 rfl rfl rfl rfl ?_
  refine wq_l 5 d313_4 rfl rfl rfl rfl ?_
  refine wq_l 6 d313_5 rfl rfl rfl rfl ?_
  refine wq_gr (ci := 10) (j := 23) (q := 56) 9 d313_6 rfl rfl rfl rfl ?_
  refine wq_l 10 d313_9 rfl rfl rfl rfl ?_
  refine wq_gr (ci := 10) (j := 19) (q := 52) 13 d313_10 rfl rfl rfl rfl ?_
  refine wq_l 14 d313_13 rfl rfl rfl rfl ?_
  refine wq_al 15 d313_14 rfl rfl rfl (bi) ?_
  rw [ef]
  refine wq_al 16 d313_15 rfl rfl rfl (rt_b (rr_T h) hi) ?_
  rw [rt_t h hi]
  refine wq_as 17 d313_16 rfl rfl rfl (bi) ?_
  rw [show pm_nr 0 (A.2.1 (i + 1)) = A.2.1 (i + 1) from rfl]
  refine wq_l 18 d313_17 rfl rfl rfl rfl ?_
  refine wq_gr (ci := 10) (j := 18) (q := 51) 21 d313_18 rfl rfl rfl rfl ?_
  refine wq_l 22 d313_21 rfl rfl rfl rfl ?_
  refine wq_al 23 d313_22 rfl rfl rfl (bi) ?_
  rw [rt_v (rr_T h17) i0 hk]
  refine wq_b 40 26 d313_23 rfl (by decide) rfl (fun c23 => ?_) (fun c23 => ?_)
  · -- pc 40
    refine wq_k 41 0 d313_40 (by decide) rfl ?_
    refine wq_ri d313_41 (rfl) ?_
    exact rr_q0 hQ h17 (if_neg (fun z => c23 z.1))
  · -- pc 26
    refine wq_l 27 d313_26 rfl rfl rfl rfl ?_
    refine wq_gr (ci := 10) (j := 23) (q := 56) 30 d313_27 rfl rfl rfl rfl ?_
    refine wq_l 31 d313_30 rfl rfl rfl rfl ?_
    refine wq_al 32 d313_31 rfl rfl rfl (bi) ?_
    rw [show (pm_pr σ 56 (upd (σ.2.2 56) (nI (a i)).toNatClampNeg (A.2.1 (i + 1)))).2.2 56 (nI (a i)).toNatClampNeg = A.2.1 (i + 1) from (rt_t h17 i0).trans (if_pos rfl)]
    refine wq_b 40 35 d313_32 rfl (by decide) rfl (fun c32 => ?_) (fun c32 => ?_)
    · -- pc 40
      refine wq_k 41 0 d313_40 (by decide) rfl ?_
      refine wq_ri d313_41 (rfl) ?_
      exact rr_q0 hQ h17 (if_neg (fun z => c32 (hn.mp z.2)))
    · -- pc 35
      refine wq_k 37 28 d313_35 (by decide) rfl ?_
      refine wq_g 41 d313_37 (by decide) ?_
      refine wq_ri d313_41 (rfl) ?_
      exact rr_q1 (k := 28) hQ (rr_Fi h17) (if_pos ⟨Classical.not_not.mp c23, hn.mpr (Classical.not_not.mp c32)⟩) (by decide)
def rl_two (A : rl_A) (i : Nat) (t1 t2 x : Int32) : Nat × rl_A := if (if x.toInt ≤ 4 then rl_com t1 t2 else rl_wid t1 t2) = -1 then (27, A) else (0, rl_ty A i (if 3 ≤ x.toInt ∧ x.toInt ≤ 8 then 0 else (if x.toInt ≤ 4 then rl_com t1 t2 else rl_wid t1 t2)))
theorem rl_two0 {A : rl_A} {i : Nat} {t1 t2 x r K : Int32} (h : (if x.toInt ≤ 4 then rl_com t1 t2 else rl_wid t1 t2) = K) (hK : K ≠ -1) (hr : (if 3 ≤ x.toInt ∧ x.toInt ≤ 8 then 0 else K) = r) : rl_two A i t1 t2 x = (0, rl_ty A i r) := by
  unfold rl_two
  rw [h, if_neg hK, hr]
theorem rl_two1 {A : rl_A} {i : Nat} {t1 t2 x : Int32} (h : (if x.toInt ≤ 4 then rl_com t1 t2 else rl_wid t1 t2) = -1) : rl_two A i t1 t2 x = (27, A) := by
  unfold rl_two
  rw [h, if_pos rfl]
theorem re312 {d : Nat} {l : List pg_N} {a : Nat → Nat} {R : Int32 → Int32 → Prop} {σ0 σ : pm_S} {fl : Bool} {u : Nat} {A : rl_A} {Q : Option Value → pm_S → Prop} {NN i j : Nat} (hG : lg_G l NN) (h : rr_I l a R σ0 σ fl u A) (hi : i + 1 < l.length) (hz : i + 1 < i + rl_z l i) (hj : j < l.length) (hcs : (rl_c l i).getLast? = some j) (hk : rp_nk (rl_k l i) = false) (ht1 : pv_T (A.2.1 (i + 1))) (ht2 : pv_T (A.2.1 j)) (hQ : rr_Q l a R σ0 fl u (rl_two A i (A.2.1 (i + 1)) (A.2.1 j) (rl_v l i)) Q) : pm_call pm_Y0 (d + 2) 312 [.ref 10, .int (nI (a i))] σ Q := by
  have i0 : i < l.length := by omega
  have bi := rt_b (rr_T h) i0
  have ef := (rt_f (rr_T h) hG i0).trans (if_pos hz)
  have el := rt_l (rr_T h) i0 hcs
  rcases ht1 with e1 | e1 | e1 <;> rcases ht2 with e2 | e2 | e2
  · rw [e1, e2] at hQ
    refine wq_m m312 (Nat.le_of_ble_eq_true rfl) (by decide) rfl ?_
    refine wq_l 1 d312_0 rfl rfl rfl rfl ?_
    refine wq_gr (ci := 10) (j := 23) (q := 56) 4 d312_1 rfl rfl rfl rfl ?_
    refine wq_l 5 d312_4 rfl rfl rfl rfl ?_
    refine wq_gr (ci := 10) (j := 19) (q := 52) 8 d312_5 rfl rfl rfl rfl ?_
    refine wq_l 9 d312_8 rfl rfl rfl rfl ?_
    refine wq_al 10 d312_9 rfl rfl rfl (bi) ?_
    rw [ef]
    refine wq_al 11 d312_10 rfl rfl rfl (rt_b (rr_T h) hi) ?_
    rw [rt_t h hi, e1]
    refine wq_s 12 d312_11 rfl rfl (Nat.le_of_ble_eq_true rfl) rfl rfl ?_
    refine wq_l 13 d312_12 rfl rfl rfl rfl ?_
    refine wq_gr (ci := 10) (j := 23) (q := 56) 16 d312_13 rfl rfl rfl rfl ?_
    refine wq_l 17 d312_16 rfl rfl rfl rfl ?_
    refine wq_gr (ci := 10) (j := 20) (q := 53) 20 d312_17 rfl rfl rfl rfl ?_
    refine wq_l 21 d312_20 rfl rfl rfl rfl ?_
    refine wq_al 22 d312_21 rfl rfl rfl (bi) ?_
    rw [el]
    refine wq_al 23 d312_22 rfl rfl rfl (rt_b (rr_T h) hj) ?_
    rw [rt_t h hj, e2]
    refine wq_s 24 d312_23 rfl rfl (Nat.le_of_ble_eq_true rfl) rfl rfl ?_
    refine wq_l 25 d312_24 rfl rfl rfl rfl ?_
    refine wq_gr (ci := 10) (j := 18) (q := 51) 28 d312_25 rfl rfl rfl rfl ?_
    refine wq_l 29 d312_28 rfl rfl rfl rfl ?_
    refine wq_al 30 d312_29 rfl rfl rfl (bi) ?_
    rw [rt_v (rr_T h) i0 hk]
    refine wq_s 32 d312_30 rfl rfl (Nat.le_of_ble_eq_true rfl) rfl rfl ?_
    refine wq_l 33 d312_32 rfl rfl rfl rfl ?_
    refine wq_b 44 36 d312_33 rfl (by decide) rfl (fun c33 => ?_) (fun c33 => absurd (by decide) c33)
    refine wq_k 45 0 d312_44 (by decide) rfl ?_
    refine wq_s 47 d312_45 rfl rfl (Nat.le_of_ble_eq_true rfl) rfl rfl ?_
    refine wq_l 48 d312_47 rfl rfl rfl rfl ?_
    refine wq_b 59 51 d312_48 rfl (by decide) rfl (fun c48 => absurd c48 (by decide)) (fun c48 => ?_)
    refine wq_l 52 d312_51 rfl rfl rfl rfl ?_
    refine wq_b 59 55 d312_52 rfl (by decide) rfl (fun c52 => absurd c52 (by decide)) (fun c52 => ?_)
    refine wq_k 56 1 d312_55 (by decide) rfl ?_
    refine wq_g 60 d312_56 (by decide) ?_
    refine wq_s 62 d312_60 rfl rfl (Nat.le_of_ble_eq_true rfl) rfl rfl ?_
    refine wq_l 64 d312_62 rfl rfl rfl rfl ?_
    refine wq_b 78 67 d312_64 rfl (by decide) rfl (fun c64 => absurd c64 (by decide)) (fun c64 => ?_)
    refine wq_l 69 d312_67 rfl rfl rfl rfl ?_
    refine wq_b 82 72 d312_69 rfl (by decide) rfl (fun c69 => absurd c69 (by decide)) (fun c69 => ?_)
    refine wq_l 74 d312_72 rfl rfl rfl rfl ?_
    refine wq_k 75 5 d312_74 (by decide) rfl ?_
    refine wq_b 82 78 d312_75 rfl (by decide) rfl (fun c75 => ?_) (fun c75 => ?_)
    · -- pc 82
      refine wq_k 83 0 d312_82 (by decide) rfl ?_
      refine wq_s 85 d312_83 rfl rfl (Nat.le_of_ble_eq_true rfl) rfl rfl ?_
      refine wq_l 86 d312_85 rfl rfl rfl rfl ?_
      refine wq_gr (ci := 10) (j := 23) (q := 56) 89 d312_86 rfl rfl rfl rfl ?_
      refine wq_l 90 d312_89 rfl rfl rfl rfl ?_
      refine wq_l 92 d312_90 rfl rfl rfl rfl ?_
      refine wq_k 93 2 d312_92 (by decide) rfl ?_
      refine wq_b 107 96 d312_93 rfl (by decide) rfl (fun c93 => ?_) (fun c93 => ?_)
      · -- pc 107
        refine wq_l 108 d312_107 rfl rfl rfl rfl ?_
        refine wq_l 109 d312_108 rfl rfl rfl rfl ?_
        refine wq_vs 112 [_, _] d312_109 rfl rfl m311 rfl (Nat.le_of_ble_eq_true rfl) rfl (sp311 ?_)
        rw [if_neg (by decide)]
        refine wq_as 113 d312_112 rfl rfl rfl (bi) ?_
        have hS := rr_ty h i0 0
        refine wq_l 115 d312_113 rfl rfl rfl rfl ?_
        refine wq_b 122 118 d312_115 rfl (by decide) rfl (fun c115 => ?_) (fun c115 => absurd (by decide) c115)
        refine wq_k 124 27 d312_122 (by decide) rfl ?_
        refine wq_ri d312_124 (rfl) ?_
        have g75 : 5 ≤ (rl_v l i).toInt := by rw [i_le] at c75; have c75 : (5 : Int) ≤ _ := c75; omega
        rw [rl_two1 ((if_neg (by omega)).trans (by decide))] at hQ
        exact rr_q1 (k := 27) hQ (rr_Fi hS) rfl (by decide)
      · -- pc 96
        refine wq_l 98 d312_96 rfl rfl rfl rfl ?_
        refine wq_k 100 9 d312_98 (by decide) rfl ?_
        refine wq_b 107 103 d312_100 rfl (by decide) rfl (fun c100 => ?_) (fun c100 => ?_)
        · -- pc 107
          refine wq_l 108 d312_107 rfl rfl rfl rfl ?_
          refine wq_l 109 d312_108 rfl rfl rfl rfl ?_
          refine wq_vs 112 [_, _] d312_109 rfl rfl m311 rfl (Nat.le_of_ble_eq_true rfl) rfl (sp311 ?_)
          rw [if_neg (by decide)]
          refine wq_as 113 d312_112 rfl rfl rfl (bi) ?_
          have hS := rr_ty h i0 0
          refine wq_l 115 d312_113 rfl rfl rfl rfl ?_
          refine wq_b 122 118 d312_115 rfl (by decide) rfl (fun c115 => ?_) (fun c115 => absurd (by decide) c115)
          refine wq_k 124 27 d312_122 (by decide) rfl ?_
          refine wq_ri d312_124 (rfl) ?_
          have g75 : 5 ≤ (rl_v l i).toInt := by rw [i_le] at c75; have c75 : (5 : Int) ≤ _ := c75; omega
          rw [rl_two1 ((if_neg (by omega)).trans (by decide))] at hQ
          exact rr_q1 (k := 27) hQ (rr_Fi hS) rfl (by decide)
        · -- pc 103
          refine wq_k 104 0 d312_103 (by decide) rfl ?_
          refine wq_g 112 d312_104 (by decide) ?_
          refine wq_as 113 d312_112 rfl rfl rfl (bi) ?_
          have hS := rr_ty h i0 0
          refine wq_l 115 d312_113 rfl rfl rfl rfl ?_
          refine wq_b 122 118 d312_115 rfl (by decide) rfl (fun c115 => ?_) (fun c115 => absurd (by decide) c115)
          refine wq_k 124 27 d312_122 (by decide) rfl ?_
          refine wq_ri d312_124 (rfl) ?_
          have g75 : 5 ≤ (rl_v l i).toInt := by rw [i_le] at c75; have c75 : (5 : Int) ≤ _ := c75; omega
          rw [rl_two1 ((if_neg (by omega)).trans (by decide))] at hQ
          exact rr_q1 (k := 27) hQ (rr_Fi hS) rfl (by decide)
    · -- pc 78
      refine wq_k 79 1 d312_78 (by decide) rfl ?_
      refine wq_g 83 d312_79 (by decide) ?_
      refine wq_s 85 d312_83 rfl rfl (Nat.le_of_ble_eq_true rfl) rfl rfl ?_
      refine wq_l 86 d312_85 rfl rfl rfl rfl ?_
      refine wq_gr (ci := 10) (j := 23) (q := 56) 89 d312_86 rfl rfl rfl rfl ?_
      refine wq_l 90 d312_89 rfl rfl rfl rfl ?_
      refine wq_l 92 d312_90 rfl rfl rfl rfl ?_
      refine wq_k 93 2 d312_92 (by decide) rfl ?_
      refine wq_b 107 96 d312_93 rfl (by decide) rfl (fun c93 => ?_) (fun c93 => ?_)
      · -- pc 107
        refine wq_l 108 d312_107 rfl rfl rfl rfl ?_
        refine wq_l 109 d312_108 rfl rfl rfl rfl ?_
        refine wq_vs 112 [_, _] d312_109 rfl rfl m311 rfl (Nat.le_of_ble_eq_true rfl) rfl (sp311 ?_)
        rw [if_neg (by decide)]
        refine wq_as 113 d312_112 rfl rfl rfl (bi) ?_
        have hS := rr_ty h i0 0
        refine wq_l 115 d312_113 rfl rfl rfl rfl ?_
        refine wq_b 122 118 d312_115 rfl (by decide) rfl (fun c115 => absurd c115 (by decide)) (fun c115 => ?_)
        refine wq_k 119 0 d312_118 (by decide) rfl ?_
        refine wq_g 124 d312_119 (by decide) ?_
        refine wq_ri d312_124 (rfl) ?_
        have g75 : (rl_v l i).toInt < 5 := by rw [i_le] at c75; have c75 : ¬ (5 : Int) ≤ _ := c75; omega
        have g93 : (rl_v l i).toInt ≤ 2 := by rw [i_le] at c93; have c93 : _ ≤ (2 : Int) := c93; omega
        rw [rl_two0 (r := 0) (K := 0) ((if_pos (by omega)).trans (by decide)) (by decide) (ite_self _)] at hQ
        exact rr_q0 hQ hS rfl
      · -- pc 96
        refine wq_l 98 d312_96 rfl rfl rfl rfl ?_
        refine wq_k 100 9 d312_98 (by decide) rfl ?_
        refine wq_b 107 103 d312_100 rfl (by decide) rfl (fun c100 => ?_) (fun c100 => ?_)
        · -- pc 107
          refine wq_l 108 d312_107 rfl rfl rfl rfl ?_
          refine wq_l 109 d312_108 rfl rfl rfl rfl ?_
          refine wq_vs 112 [_, _] d312_109 rfl rfl m311 rfl (Nat.le_of_ble_eq_true rfl) rfl (sp311 ?_)
          rw [if_neg (by decide)]
          refine wq_as 113 d312_112 rfl rfl rfl (bi) ?_
          have hS := rr_ty h i0 0
          refine wq_l 115 d312_113 rfl rfl rfl rfl ?_
          refine wq_b 122 118 d312_115 rfl (by decide) rfl (fun c115 => absurd c115 (by decide)) (fun c115 => ?_)
          refine wq_k 119 0 d312_118 (by decide) rfl ?_
          refine wq_g 124 d312_119 (by decide) ?_
          refine wq_ri d312_124 (rfl) ?_
          have g75 : (rl_v l i).toInt < 5 := by rw [i_le] at c75; have c75 : ¬ (5 : Int) ≤ _ := c75; omega
          have g93 : 2 < (rl_v l i).toInt := by rw [i_le] at c93; have c93 : ¬ _ ≤ (2 : Int) := c93; omega
          have g100 : 9 ≤ (rl_v l i).toInt := by rw [i_le] at c100; have c100 : (9 : Int) ≤ _ := c100; omega
          rw [rl_two0 (r := 0) (K := 0) ((if_pos (by omega)).trans (by decide)) (by decide) (ite_self _)] at hQ
          exact rr_q0 hQ hS rfl
        · -- pc 103
          refine wq_k 104 0 d312_103 (by decide) rfl ?_
          refine wq_g 112 d312_104 (by decide) ?_
          refine wq_as 113 d312_112 rfl rfl rfl (bi) ?_
          have hS := rr_ty h i0 0
          refine wq_l 115 d312_113 rfl rfl rfl rfl ?_
          refine wq_b 122 118 d312_115 rfl (by decide) rfl (fun c115 => absurd c115 (by decide)) (fun c115 => ?_)
          refine wq_k 119 0 d312_118 (by decide) rfl ?_
          refine wq_g 124 d312_119 (by decide) ?_
          refine wq_ri d312_124 (rfl) ?_
          have g75 : (rl_v l i).toInt < 5 := by rw [i_le] at c75; have c75 : ¬ (5 : Int) ≤ _ := c75; omega
          have g93 : 2 < (rl_v l i).toInt := by rw [i_le] at c93; have c93 : ¬ _ ≤ (2 : Int) := c93; omega
          have g100 : (rl_v l i).toInt < 9 := by rw [i_le] at c100; have c100 : ¬ (9 : Int) ≤ _ := c100; omega
          rw [rl_two0 (r := 0) (K := 0) ((if_pos (by omega)).trans (by decide)) (by decide) (ite_self _)] at hQ
          exact rr_q0 hQ hS rfl
  · rw [e1, e2] at hQ
    refine wq_m m312 (Nat.le_of_ble_eq_true rfl) (by decide) rfl ?_
    refine wq_l 1 d312_0 rfl rfl rfl rfl ?_
    refine wq_gr (ci := 10) (j := 23) (q := 56) 4 d312_1 rfl rfl rfl rfl ?_
    refine wq_l 5 d312_4 rfl rfl rfl rfl ?_
    refine wq_gr (ci := 10) (j := 19) (q := 52) 8 d312_5 rfl rfl rfl rfl ?_
    refine wq_l 9 d312_8 rfl rfl rfl rfl ?_
    refine wq_al 10 d312_9 rfl rfl rfl (bi) ?_
    rw [ef]
    refine wq_al 11 d312_10 rfl rfl rfl (rt_b (rr_T h) hi) ?_
    rw [rt_t h hi, e1]
    refine wq_s 12 d312_11 rfl rfl (Nat.le_of_ble_eq_true rfl) rfl rfl ?_
    refine wq_l 13 d312_12 rfl rfl rfl rfl ?_
    refine wq_gr (ci := 10) (j := 23) (q := 56) 16 d312_13 rfl rfl rfl rfl ?_
    refine wq_l 17 d312_16 rfl rfl rfl rfl ?_
    refine wq_gr (ci := 10) (j := 20) (q := 53) 20 d312_17 rfl rfl rfl rfl ?_
    refine wq_l 21 d312_20 rfl rfl rfl rfl ?_
    refine wq_al 22 d312_21 rfl rfl rfl (bi) ?_
    rw [el]
    refine wq_al 23 d312_22 rfl rfl rfl (rt_b (rr_T h) hj) ?_
    rw [rt_t h hj, e2]
    refine wq_s 24 d312_23 rfl rfl (Nat.le_of_ble_eq_true rfl) rfl rfl ?_
    refine wq_l 25 d312_24 rfl rfl rfl rfl ?_
    refine wq_gr (ci := 10) (j := 18) (q := 51) 28 d312_25 rfl rfl rfl rfl ?_
    refine wq_l 29 d312_28 rfl rfl rfl rfl ?_
    refine wq_al 30 d312_29 rfl rfl rfl (bi) ?_
    rw [rt_v (rr_T h) i0 hk]
    refine wq_s 32 d312_30 rfl rfl (Nat.le_of_ble_eq_true rfl) rfl rfl ?_
    refine wq_l 33 d312_32 rfl rfl rfl rfl ?_
    refine wq_b 44 36 d312_33 rfl (by decide) rfl (fun c33 => ?_) (fun c33 => absurd (by decide) c33)
    refine wq_k 45 0 d312_44 (by decide) rfl ?_
    refine wq_s 47 d312_45 rfl rfl (Nat.le_of_ble_eq_true rfl) rfl rfl ?_
    refine wq_l 48 d312_47 rfl rfl rfl rfl ?_
    refine wq_b 59 51 d312_48 rfl (by decide) rfl (fun c48 => absurd c48 (by decide)) (fun c48 => ?_)
    refine wq_l 52 d312_51 rfl rfl rfl rfl ?_
    refine wq_b 59 55 d312_52 rfl (by decide) rfl (fun c52 => ?_) (fun c52 => absurd (by decide) c52)
    refine wq_k 60 0 d312_59 (by decide) rfl ?_
    refine wq_s 62 d312_60 rfl rfl (Nat.le_of_ble_eq_true rfl) rfl rfl ?_
    refine wq_l 64 d312_62 rfl rfl rfl rfl ?_
    refine wq_b 78 67 d312_64 rfl (by decide) rfl (fun c64 => absurd c64 (by decide)) (fun c64 => ?_)
    refine wq_l 69 d312_67 rfl rfl rfl rfl ?_
    refine wq_b 82 72 d312_69 rfl (by decide) rfl (fun c69 => ?_) (fun c69 => absurd (by decide) c69)
    refine wq_k 83 0 d312_82 (by decide) rfl ?_
    refine wq_s 85 d312_83 rfl rfl (Nat.le_of_ble_eq_true rfl) rfl rfl ?_
    refine wq_l 86 d312_85 rfl rfl rfl rfl ?_
    refine wq_gr (ci := 10) (j := 23) (q := 56) 89 d312_86 rfl rfl rfl rfl ?_
    refine wq_l 90 d312_89 rfl rfl rfl rfl ?_
    refine wq_l 92 d312_90 rfl rfl rfl rfl ?_
    refine wq_k 93 2 d312_92 (by decide) rfl ?_
    refine wq_b 107 96 d312_93 rfl (by decide) rfl (fun c93 => ?_) (fun c93 => ?_)
    · -- pc 107
      refine wq_l 108 d312_107 rfl rfl rfl rfl ?_
      refine wq_l 109 d312_108 rfl rfl rfl rfl ?_
      refine wq_vs 112 [_, _] d312_109 rfl rfl m311 rfl (Nat.le_of_ble_eq_true rfl) rfl (sp311 ?_)
      rw [if_neg (by decide)]
      refine wq_as 113 d312_112 rfl rfl rfl (bi) ?_
      have hS := rr_ty h i0 1
      refine wq_l 115 d312_113 rfl rfl rfl rfl ?_
      refine wq_b 122 118 d312_115 rfl (by decide) rfl (fun c115 => ?_) (fun c115 => absurd (by decide) c115)
      refine wq_k 124 27 d312_122 (by decide) rfl ?_
      refine wq_ri d312_124 (rfl) ?_
      rw [rl_two1 ((ite_congr rfl (fun _ => (by decide : rl_com 0 1 = -1)) (fun _ => (by decide : rl_wid 0 1 = -1))).trans (ite_self _))] at hQ
      exact rr_q1 (k := 27) hQ (rr_Fi hS) rfl (by decide)
    · -- pc 96
      refine wq_l 98 d312_96 rfl rfl rfl rfl ?_
      refine wq_k 100 9 d312_98 (by decide) rfl ?_
      refine wq_b 107 103 d312_100 rfl (by decide) rfl (fun c100 => ?_) (fun c100 => ?_)
      · -- pc 107
        refine wq_l 108 d312_107 rfl rfl rfl rfl ?_
        refine wq_l 109 d312_108 rfl rfl rfl rfl ?_
        refine wq_vs 112 [_, _] d312_109 rfl rfl m311 rfl (Nat.le_of_ble_eq_true rfl) rfl (sp311 ?_)
        rw [if_neg (by decide)]
        refine wq_as 113 d312_112 rfl rfl rfl (bi) ?_
        have hS := rr_ty h i0 1
        refine wq_l 115 d312_113 rfl rfl rfl rfl ?_
        refine wq_b 122 118 d312_115 rfl (by decide) rfl (fun c115 => ?_) (fun c115 => absurd (by decide) c115)
        refine wq_k 124 27 d312_122 (by decide) rfl ?_
        refine wq_ri d312_124 (rfl) ?_
        rw [rl_two1 ((ite_congr rfl (fun _ => (by decide : rl_com 0 1 = -1)) (fun _ => (by decide : rl_wid 0 1 = -1))).trans (ite_self _))] at hQ
        exact rr_q1 (k := 27) hQ (rr_Fi hS) rfl (by decide)
      · -- pc 103
        refine wq_k 104 0 d312_103 (by decide) rfl ?_
        refine wq_g 112 d312_104 (by decide) ?_
        refine wq_as 113 d312_112 rfl rfl rfl (bi) ?_
        have hS := rr_ty h i0 0
        refine wq_l 115 d312_113 rfl rfl rfl rfl ?_
        refine wq_b 122 118 d312_115 rfl (by decide) rfl (fun c115 => ?_) (fun c115 => absurd (by decide) c115)
        refine wq_k 124 27 d312_122 (by decide) rfl ?_
        refine wq_ri d312_124 (rfl) ?_
        rw [rl_two1 ((ite_congr rfl (fun _ => (by decide : rl_com 0 1 = -1)) (fun _ => (by decide : rl_wid 0 1 = -1))).trans (ite_self _))] at hQ
        exact rr_q1 (k := 27) hQ (rr_Fi hS) rfl (by decide)
  · rw [e1, e2] at hQ
    refine wq_m m312 (Nat.le_of_ble_eq_true rfl) (by decide) rfl ?_
    refine wq_l 1 d312_0 rfl rfl rfl rfl ?_
    refine wq_gr (ci := 10) (j := 23) (q := 56) 4 d312_1 rfl rfl rfl rfl ?_
    refine wq_l 5 d312_4 rfl rfl rfl rfl ?_
    refine wq_gr (ci := 10) (j := 19) (q := 52) 8 d312_5 rfl rfl rfl rfl ?_
    refine wq_l 9 d312_8 rfl rfl rfl rfl ?_
    refine wq_al 10 d312_9 rfl rfl rfl (bi) ?_
    rw [ef]
    refine wq_al 11 d312_10 rfl rfl rfl (rt_b (rr_T h) hi) ?_
    rw [rt_t h hi, e1]
    refine wq_s 12 d312_11 rfl rfl (Nat.le_of_ble_eq_true rfl) rfl rfl ?_
    refine wq_l 13 d312_12 rfl rfl rfl rfl ?_
    refine wq_gr (ci := 10) (j := 23) (q := 56) 16 d312_13 rfl rfl rfl rfl ?_
    refine wq_l 17 d312_16 rfl rfl rfl rfl ?_
    refine wq_gr (ci := 10) (j := 20) (q := 53) 20 d312_17 rfl rfl rfl rfl ?_
    refine wq_l 21 d312_20 rfl rfl rfl rfl ?_
    refine wq_al 22 d312_21 rfl rfl rfl (bi) ?_
    rw [el]
    refine wq_al 23 d312_22 rfl rfl rfl (rt_b (rr_T h) hj) ?_
    rw [rt_t h hj, e2]
    refine wq_s 24 d312_23 rfl rfl (Nat.le_of_ble_eq_true rfl) rfl rfl ?_
    refine wq_l 25 d312_24 rfl rfl rfl rfl ?_
    refine wq_gr (ci := 10) (j := 18) (q := 51) 28 d312_25 rfl rfl rfl rfl ?_
    refine wq_l 29 d312_28 rfl rfl rfl rfl ?_
    refine wq_al 30 d312_29 rfl rfl rfl (bi) ?_
    rw [rt_v (rr_T h) i0 hk]
    refine wq_s 32 d312_30 rfl rfl (Nat.le_of_ble_eq_true rfl) rfl rfl ?_
    refine wq_l 33 d312_32 rfl rfl rfl rfl ?_
    refine wq_b 44 36 d312_33 rfl (by decide) rfl (fun c33 => ?_) (fun c33 => absurd (by decide) c33)
    refine wq_k 45 0 d312_44 (by decide) rfl ?_
    refine wq_s 47 d312_45 rfl rfl (Nat.le_of_ble_eq_true rfl) rfl rfl ?_
    refine wq_l 48 d312_47 rfl rfl rfl rfl ?_
    refine wq_b 59 51 d312_48 rfl (by decide) rfl (fun c48 => absurd c48 (by decide)) (fun c48 => ?_)
    refine wq_l 52 d312_51 rfl rfl rfl rfl ?_
    refine wq_b 59 55 d312_52 rfl (by decide) rfl (fun c52 => ?_) (fun c52 => absurd (by decide) c52)
    refine wq_k 60 0 d312_59 (by decide) rfl ?_
    refine wq_s 62 d312_60 rfl rfl (Nat.le_of_ble_eq_true rfl) rfl rfl ?_
    refine wq_l 64 d312_62 rfl rfl rfl rfl ?_
    refine wq_b 78 67 d312_64 rfl (by decide) rfl (fun c64 => absurd c64 (by decide)) (fun c64 => ?_)
    refine wq_l 69 d312_67 rfl rfl rfl rfl ?_
    refine wq_b 82 72 d312_69 rfl (by decide) rfl (fun c69 => ?_) (fun c69 => absurd (by decide) c69)
    refine wq_k 83 0 d312_82 (by decide) rfl ?_
    refine wq_s 85 d312_83 rfl rfl (Nat.le_of_ble_eq_true rfl) rfl rfl ?_
    refine wq_l 86 d312_85 rfl rfl rfl rfl ?_
    refine wq_gr (ci := 10) (j := 23) (q := 56) 89 d312_86 rfl rfl rfl rfl ?_
    refine wq_l 90 d312_89 rfl rfl rfl rfl ?_
    refine wq_l 92 d312_90 rfl rfl rfl rfl ?_
    refine wq_k 93 2 d312_92 (by decide) rfl ?_
    refine wq_b 107 96 d312_93 rfl (by decide) rfl (fun c93 => ?_) (fun c93 => ?_)
    · -- pc 107
      refine wq_l 108 d312_107 rfl rfl rfl rfl ?_
      refine wq_l 109 d312_108 rfl rfl rfl rfl ?_
      refine wq_vs 112 [_, _] d312_109 rfl rfl m311 rfl (Nat.le_of_ble_eq_true rfl) rfl (sp311 ?_)
      rw [if_neg (by decide)]
      refine wq_as 113 d312_112 rfl rfl rfl (bi) ?_
      have hS := rr_ty h i0 2
      refine wq_l 115 d312_113 rfl rfl rfl rfl ?_
      refine wq_b 122 118 d312_115 rfl (by decide) rfl (fun c115 => ?_) (fun c115 => absurd (by decide) c115)
      refine wq_k 124 27 d312_122 (by decide) rfl ?_
      refine wq_ri d312_124 (rfl) ?_
      rw [rl_two1 ((ite_congr rfl (fun _ => (by decide : rl_com 0 2 = -1)) (fun _ => (by decide : rl_wid 0 2 = -1))).trans (ite_self _))] at hQ
      exact rr_q1 (k := 27) hQ (rr_Fi hS) rfl (by decide)
    · -- pc 96
      refine wq_l 98 d312_96 rfl rfl rfl rfl ?_
      refine wq_k 100 9 d312_98 (by decide) rfl ?_
      refine wq_b 107 103 d312_100 rfl (by decide) rfl (fun c100 => ?_) (fun c100 => ?_)
      · -- pc 107
        refine wq_l 108 d312_107 rfl rfl rfl rfl ?_
        refine wq_l 109 d312_108 rfl rfl rfl rfl ?_
        refine wq_vs 112 [_, _] d312_109 rfl rfl m311 rfl (Nat.le_of_ble_eq_true rfl) rfl (sp311 ?_)
        rw [if_neg (by decide)]
        refine wq_as 113 d312_112 rfl rfl rfl (bi) ?_
        have hS := rr_ty h i0 2
        refine wq_l 115 d312_113 rfl rfl rfl rfl ?_
        refine wq_b 122 118 d312_115 rfl (by decide) rfl (fun c115 => ?_) (fun c115 => absurd (by decide) c115)
        refine wq_k 124 27 d312_122 (by decide) rfl ?_
        refine wq_ri d312_124 (rfl) ?_
        rw [rl_two1 ((ite_congr rfl (fun _ => (by decide : rl_com 0 2 = -1)) (fun _ => (by decide : rl_wid 0 2 = -1))).trans (ite_self _))] at hQ
        exact rr_q1 (k := 27) hQ (rr_Fi hS) rfl (by decide)
      · -- pc 103
        refine wq_k 104 0 d312_103 (by decide) rfl ?_
        refine wq_g 112 d312_104 (by decide) ?_
        refine wq_as 113 d312_112 rfl rfl rfl (bi) ?_
        have hS := rr_ty h i0 0
        refine wq_l 115 d312_113 rfl rfl rfl rfl ?_
        refine wq_b 122 118 d312_115 rfl (by decide) rfl (fun c115 => ?_) (fun c115 => absurd (by decide) c115)
        refine wq_k 124 27 d312_122 (by decide) rfl ?_
        refine wq_ri d312_124 (rfl) ?_
        rw [rl_two1 ((ite_congr rfl (fun _ => (by decide : rl_com 0 2 = -1)) (fun _ => (by decide : rl_wid 0 2 = -1))).trans (ite_self _))] at hQ
        exact rr_q1 (k := 27) hQ (rr_Fi hS) rfl (by decide)
  · rw [e1, e2] at hQ
    refine wq_m m312 (Nat.le_of_ble_eq_true rfl) (by decide) rfl ?_
    refine wq_l 1 d312_0 rfl rfl rfl rfl ?_
    refine wq_gr (ci := 10) (j := 23) (q := 56) 4 d312_1 rfl rfl rfl rfl ?_
    refine wq_l 5 d312_4 rfl rfl rfl rfl ?_
    refine wq_gr (ci := 10) (j := 19) (q := 52) 8 d312_5 rfl rfl rfl rfl ?_
    refine wq_l 9 d312_8 rfl rfl rfl rfl ?_
    refine wq_al 10 d312_9 rfl rfl rfl (bi) ?_
    rw [ef]
    refine wq_al 11 d312_10 rfl rfl rfl (rt_b (rr_T h) hi) ?_
    rw [rt_t h hi, e1]
    refine wq_s 12 d312_11 rfl rfl (Nat.le_of_ble_eq_true rfl) rfl rfl ?_
    refine wq_l 13 d312_12 rfl rfl rfl rfl ?_
    refine wq_gr (ci := 10) (j := 23) (q := 56) 16 d312_13 rfl rfl rfl rfl ?_
    refine wq_l 17 d312_16 rfl rfl rfl rfl ?_
    refine wq_gr (ci := 10) (j := 20) (q := 53) 20 d312_17 rfl rfl rfl rfl ?_
    refine wq_l 21 d312_20 rfl rfl rfl rfl ?_
    refine wq_al 22 d312_21 rfl rfl rfl (bi) ?_
    rw [el]
    refine wq_al 23 d312_22 rfl rfl rfl (rt_b (rr_T h) hj) ?_
    rw [rt_t h hj, e2]
    refine wq_s 24 d312_23 rfl rfl (Nat.le_of_ble_eq_true rfl) rfl rfl ?_
    refine wq_l 25 d312_24 rfl rfl rfl rfl ?_
    refine wq_gr (ci := 10) (j := 18) (q := 51) 28 d312_25 rfl rfl rfl rfl ?_
    refine wq_l 29 d312_28 rfl rfl rfl rfl ?_
    refine wq_al 30 d312_29 rfl rfl rfl (bi) ?_
    rw [rt_v (rr_T h) i0 hk]
    refine wq_s 32 d312_30 rfl rfl (Nat.le_of_ble_eq_true rfl) rfl rfl ?_
    refine wq_l 33 d312_32 rfl rfl rfl rfl ?_
    refine wq_b 44 36 d312_33 rfl (by decide) rfl (fun c33 => absurd c33 (by decide)) (fun c33 => ?_)
    refine wq_l 37 d312_36 rfl rfl rfl rfl ?_
    refine wq_b 44 40 d312_37 rfl (by decide) rfl (fun c37 => ?_) (fun c37 => absurd (by decide) c37)
    refine wq_k 45 0 d312_44 (by decide) rfl ?_
    refine wq_s 47 d312_45 rfl rfl (Nat.le_of_ble_eq_true rfl) rfl rfl ?_
    refine wq_l 48 d312_47 rfl rfl rfl rfl ?_
    refine wq_b 59 51 d312_48 rfl (by decide) rfl (fun c48 => ?_) (fun c48 => absurd (by decide) c48)
    refine wq_k 60 0 d312_59 (by decide) rfl ?_
    refine wq_s 62 d312_60 rfl rfl (Nat.le_of_ble_eq_true rfl) rfl rfl ?_
    refine wq_l 64 d312_62 rfl rfl rfl rfl ?_
    refine wq_b 78 67 d312_64 rfl (by decide) rfl (fun c64 => absurd c64 (by decide)) (fun c64 => ?_)
    refine wq_l 69 d312_67 rfl rfl rfl rfl ?_
    refine wq_b 82 72 d312_69 rfl (by decide) rfl (fun c69 => ?_) (fun c69 => absurd (by decide) c69)
    refine wq_k 83 0 d312_82 (by decide) rfl ?_
    refine wq_s 85 d312_83 rfl rfl (Nat.le_of_ble_eq_true rfl) rfl rfl ?_
    refine wq_l 86 d312_85 rfl rfl rfl rfl ?_
    refine wq_gr (ci := 10) (j := 23) (q := 56) 89 d312_86 rfl rfl rfl rfl ?_
    refine wq_l 90 d312_89 rfl rfl rfl rfl ?_
    refine wq_l 92 d312_90 rfl rfl rfl rfl ?_
    refine wq_k 93 2 d312_92 (by decide) rfl ?_
    refine wq_b 107 96 d312_93 rfl (by decide) rfl (fun c93 => ?_) (fun c93 => ?_)
    · -- pc 107
      refine wq_l 108 d312_107 rfl rfl rfl rfl ?_
      refine wq_l 109 d312_108 rfl rfl rfl rfl ?_
      refine wq_vs 112 [_, _] d312_109 rfl rfl m311 rfl (Nat.le_of_ble_eq_true rfl) rfl (sp311 ?_)
      rw [if_pos (by decide)]
      refine wq_as 113 d312_112 rfl rfl rfl (bi) ?_
      have hS := rr_ty h i0 1
      refine wq_l 115 d312_113 rfl rfl rfl rfl ?_
      refine wq_b 122 118 d312_115 rfl (by decide) rfl (fun c115 => ?_) (fun c115 => absurd (by decide) c115)
      refine wq_k 124 27 d312_122 (by decide) rfl ?_
      refine wq_ri d312_124 (rfl) ?_
      rw [rl_two1 ((ite_congr rfl (fun _ => (by decide : rl_com 1 0 = -1)) (fun _ => (by decide : rl_wid 1 0 = -1))).trans (ite_self _))] at hQ
      exact rr_q1 (k := 27) hQ (rr_Fi hS) rfl (by decide)
    · -- pc 96
      refine wq_l 98 d312_96 rfl rfl rfl rfl ?_
      refine wq_k 100 9 d312_98 (by decide) rfl ?_
      refine wq_b 107 103 d312_100 rfl (by decide) rfl (fun c100 => ?_) (fun c100 => ?_)
      · -- pc 107
        refine wq_l 108 d312_107 rfl rfl rfl rfl ?_
        refine wq_l 109 d312_108 rfl rfl rfl rfl ?_
        refine wq_vs 112 [_, _] d312_109 rfl rfl m311 rfl (Nat.le_of_ble_eq_true rfl) rfl (sp311 ?_)
        rw [if_pos (by decide)]
        refine wq_as 113 d312_112 rfl rfl rfl (bi) ?_
        have hS := rr_ty h i0 1
        refine wq_l 115 d312_113 rfl rfl rfl rfl ?_
        refine wq_b 122 118 d312_115 rfl (by decide) rfl (fun c115 => ?_) (fun c115 => absurd (by decide) c115)
        refine wq_k 124 27 d312_122 (by decide) rfl ?_
        refine wq_ri d312_124 (rfl) ?_
        rw [rl_two1 ((ite_congr rfl (fun _ => (by decide : rl_com 1 0 = -1)) (fun _ => (by decide : rl_wid 1 0 = -1))).trans (ite_self _))] at hQ
        exact rr_q1 (k := 27) hQ (rr_Fi hS) rfl (by decide)
      · -- pc 103
        refine wq_k 104 0 d312_103 (by decide) rfl ?_
        refine wq_g 112 d312_104 (by decide) ?_
        refine wq_as 113 d312_112 rfl rfl rfl (bi) ?_
        have hS := rr_ty h i0 0
        refine wq_l 115 d312_113 rfl rfl rfl rfl ?_
        refine wq_b 122 118 d312_115 rfl (by decide) rfl (fun c115 => ?_) (fun c115 => absurd (by decide) c115)
        refine wq_k 124 27 d312_122 (by decide) rfl ?_
        refine wq_ri d312_124 (rfl) ?_
        rw [rl_two1 ((ite_congr rfl (fun _ => (by decide : rl_com 1 0 = -1)) (fun _ => (by decide : rl_wid 1 0 = -1))).trans (ite_self _))] at hQ
        exact rr_q1 (k := 27) hQ (rr_Fi hS) rfl (by decide)
  · rw [e1, e2] at hQ
    refine wq_m m312 (Nat.le_of_ble_eq_true rfl) (by decide) rfl ?_
    refine wq_l 1 d312_0 rfl rfl rfl rfl ?_
    refine wq_gr (ci := 10) (j := 23) (q := 56) 4 d312_1 rfl rfl rfl rfl ?_
    refine wq_l 5 d312_4 rfl rfl rfl rfl ?_
    refine wq_gr (ci := 10) (j := 19) (q := 52) 8 d312_5 rfl rfl rfl rfl ?_
    refine wq_l 9 d312_8 rfl rfl rfl rfl ?_
    refine wq_al 10 d312_9 rfl rfl rfl (bi) ?_
    rw [ef]
    refine wq_al 11 d312_10 rfl rfl rfl (rt_b (rr_T h) hi) ?_
    rw [rt_t h hi, e1]
    refine wq_s 12 d312_11 rfl rfl (Nat.le_of_ble_eq_true rfl) rfl rfl ?_
    refine wq_l 13 d312_12 rfl rfl rfl rfl ?_
    refine wq_gr (ci := 10) (j := 23) (q := 56) 16 d312_13 rfl rfl rfl rfl ?_
    refine wq_l 17 d312_16 rfl rfl rfl rfl ?_
    refine wq_gr (ci := 10) (j := 20) (q := 53) 20 d312_17 rfl rfl rfl rfl ?_
    refine wq_l 21 d312_20 rfl rfl rfl rfl ?_
    refine wq_al 22 d312_21 rfl rfl rfl (bi) ?_
    rw [el]
    refine wq_al 23 d312_22 rfl rfl rfl (rt_b (rr_T h) hj) ?_
    rw [rt_t h hj, e2]
    refine wq_s 24 d312_23 rfl rfl (Nat.le_of_ble_eq_true rfl) rfl rfl ?_
    refine wq_l 25 d312_24 rfl rfl rfl rfl ?_
    refine wq_gr (ci := 10) (j := 18) (q := 51) 28 d312_25 rfl rfl rfl rfl ?_
    refine wq_l 29 d312_28 rfl rfl rfl rfl ?_
    refine wq_al 30 d312_29 rfl rfl rfl (bi) ?_
    rw [rt_v (rr_T h) i0 hk]
    refine wq_s 32 d312_30 rfl rfl (Nat.le_of_ble_eq_true rfl) rfl rfl ?_
    refine wq_l 33 d312_32 rfl rfl rfl rfl ?_
    refine wq_b 44 36 d312_33 rfl (by decide) rfl (fun c33 => absurd c33 (by decide)) (fun c33 => ?_)
    refine wq_l 37 d312_36 rfl rfl rfl rfl ?_
    refine wq_b 44 40 d312_37 rfl (by decide) rfl (fun c37 => absurd c37 (by decide)) (fun c37 => ?_)
    refine wq_k 41 1 d312_40 (by decide) rfl ?_
    refine wq_g 45 d312_41 (by decide) ?_
    refine wq_s 47 d312_45 rfl rfl (Nat.le_of_ble_eq_true rfl) rfl rfl ?_
    refine wq_l 48 d312_47 rfl rfl rfl rfl ?_
    refine wq_b 59 51 d312_48 rfl (by decide) rfl (fun c48 => ?_) (fun c48 => absurd (by decide) c48)
    refine wq_k 60 0 d312_59 (by decide) rfl ?_
    refine wq_s 62 d312_60 rfl rfl (Nat.le_of_ble_eq_true rfl) rfl rfl ?_
    refine wq_l 64 d312_62 rfl rfl rfl rfl ?_
    refine wq_b 78 67 d312_64 rfl (by decide) rfl (fun c64 => ?_) (fun c64 => absurd (by decide) c64)
    refine wq_k 79 1 d312_78 (by decide) rfl ?_
    refine wq_g 83 d312_79 (by decide) ?_
    refine wq_s 85 d312_83 rfl rfl (Nat.le_of_ble_eq_true rfl) rfl rfl ?_
    refine wq_l 86 d312_85 rfl rfl rfl rfl ?_
    refine wq_gr (ci := 10) (j := 23) (q := 56) 89 d312_86 rfl rfl rfl rfl ?_
    refine wq_l 90 d312_89 rfl rfl rfl rfl ?_
    refine wq_l 92 d312_90 rfl rfl rfl rfl ?_
    refine wq_k 93 2 d312_92 (by decide) rfl ?_
    refine wq_b 107 96 d312_93 rfl (by decide) rfl (fun c93 => ?_) (fun c93 => ?_)
    · -- pc 107
      refine wq_l 108 d312_107 rfl rfl rfl rfl ?_
      refine wq_l 109 d312_108 rfl rfl rfl rfl ?_
      refine wq_vs 112 [_, _] d312_109 rfl rfl m311 rfl (Nat.le_of_ble_eq_true rfl) rfl (sp311 ?_)
      rw [if_neg (by decide)]
      refine wq_as 113 d312_112 rfl rfl rfl (bi) ?_
      have hS := rr_ty h i0 1
      refine wq_l 115 d312_113 rfl rfl rfl rfl ?_
      refine wq_b 122 118 d312_115 rfl (by decide) rfl (fun c115 => absurd c115 (by decide)) (fun c115 => ?_)
      refine wq_k 119 0 d312_118 (by decide) rfl ?_
      refine wq_g 124 d312_119 (by decide) ?_
      refine wq_ri d312_124 (rfl) ?_
      have g93 : (rl_v l i).toInt ≤ 2 := by rw [i_le] at c93; have c93 : _ ≤ (2 : Int) := c93; omega
      rw [rl_two0 (r := 1) (K := 1) ((ite_congr rfl (fun _ => (by decide : rl_com 1 1 = 1)) (fun _ => (by decide : rl_wid 1 1 = 1))).trans (ite_self _)) (by decide) (if_neg (by omega))] at hQ
      exact rr_q0 hQ hS rfl
    · -- pc 96
      refine wq_l 98 d312_96 rfl rfl rfl rfl ?_
      refine wq_k 100 9 d312_98 (by decide) rfl ?_
      refine wq_b 107 103 d312_100 rfl (by decide) rfl (fun c100 => ?_) (fun c100 => ?_)
      · -- pc 107
        refine wq_l 108 d312_107 rfl rfl rfl rfl ?_
        refine wq_l 109 d312_108 rfl rfl rfl rfl ?_
        refine wq_vs 112 [_, _] d312_109 rfl rfl m311 rfl (Nat.le_of_ble_eq_true rfl) rfl (sp311 ?_)
        rw [if_neg (by decide)]
        refine wq_as 113 d312_112 rfl rfl rfl (bi) ?_
        have hS := rr_ty h i0 1
        refine wq_l 115 d312_113 rfl rfl rfl rfl ?_
        refine wq_b 122 118 d312_115 rfl (by decide) rfl (fun c115 => absurd c115 (by decide)) (fun c115 => ?_)
        refine wq_k 119 0 d312_118 (by decide) rfl ?_
        refine wq_g 124 d312_119 (by decide) ?_
        refine wq_ri d312_124 (rfl) ?_
        have g93 : 2 < (rl_v l i).toInt := by rw [i_le] at c93; have c93 : ¬ _ ≤ (2 : Int) := c93; omega
        have g100 : 9 ≤ (rl_v l i).toInt := by rw [i_le] at c100; have c100 : (9 : Int) ≤ _ := c100; omega
        rw [rl_two0 (r := 1) (K := 1) ((ite_congr rfl (fun _ => (by decide : rl_com 1 1 = 1)) (fun _ => (by decide : rl_wid 1 1 = 1))).trans (ite_self _)) (by decide) (if_neg (by omega))] at hQ
        exact rr_q0 hQ hS rfl
      · -- pc 103
        refine wq_k 104 0 d312_103 (by decide) rfl ?_
        refine wq_g 112 d312_104 (by decide) ?_
        refine wq_as 113 d312_112 rfl rfl rfl (bi) ?_
        have hS := rr_ty h i0 0
        refine wq_l 115 d312_113 rfl rfl rfl rfl ?_
        refine wq_b 122 118 d312_115 rfl (by decide) rfl (fun c115 => absurd c115 (by decide)) (fun c115 => ?_)
        refine wq_k 119 0 d312_118 (by decide) rfl ?_
        refine wq_g 124 d312_119 (by decide) ?_
        refine wq_ri d312_124 (rfl) ?_
        have g93 : 2 < (rl_v l i).toInt := by rw [i_le] at c93; have c93 : ¬ _ ≤ (2 : Int) := c93; omega
        have g100 : (rl_v l i).toInt < 9 := by rw [i_le] at c100; have c100 : ¬ (9 : Int) ≤ _ := c100; omega
        rw [rl_two0 (r := 0) (K := 1) ((ite_congr rfl (fun _ => (by decide : rl_com 1 1 = 1)) (fun _ => (by decide : rl_wid 1 1 = 1))).trans (ite_self _)) (by decide) (if_pos (by omega))] at hQ
        exact rr_q0 hQ hS rfl
  · rw [e1, e2] at hQ
    refine wq_m m312 (Nat.le_of_ble_eq_true rfl) (by decide) rfl ?_
    refine wq_l 1 d312_0 rfl rfl rfl rfl ?_
    refine wq_gr (ci := 10) (j := 23) (q := 56) 4 d312_1 rfl rfl rfl rfl ?_
    refine wq_l 5 d312_4 rfl rfl rfl rfl ?_
    refine wq_gr (ci := 10) (j := 19) (q := 52) 8 d312_5 rfl rfl rfl rfl ?_
    refine wq_l 9 d312_8 rfl rfl rfl rfl ?_
    refine wq_al 10 d312_9 rfl rfl rfl (bi) ?_
    rw [ef]
    refine wq_al 11 d312_10 rfl rfl rfl (rt_b (rr_T h) hi) ?_
    rw [rt_t h hi, e1]
    refine wq_s 12 d312_11 rfl rfl (Nat.le_of_ble_eq_true rfl) rfl rfl ?_
    refine wq_l 13 d312_12 rfl rfl rfl rfl ?_
    refine wq_gr (ci := 10) (j := 23) (q := 56) 16 d312_13 rfl rfl rfl rfl ?_
    refine wq_l 17 d312_16 rfl rfl rfl rfl ?_
    refine wq_gr (ci := 10) (j := 20) (q := 53) 20 d312_17 rfl rfl rfl rfl ?_
    refine wq_l 21 d312_20 rfl rfl rfl rfl ?_
    refine wq_al 22 d312_21 rfl rfl rfl (bi) ?_
    rw [el]
    refine wq_al 23 d312_22 rfl rfl rfl (rt_b (rr_T h) hj) ?_
    rw [rt_t h hj, e2]
    refine wq_s 24 d312_23 rfl rfl (Nat.le_of_ble_eq_true rfl) rfl rfl ?_
    refine wq_l 25 d312_24 rfl rfl rfl rfl ?_
    refine wq_gr (ci := 10) (j := 18) (q := 51) 28 d312_25 rfl rfl rfl rfl ?_
    refine wq_l 29 d312_28 rfl rfl rfl rfl ?_
    refine wq_al 30 d312_29 rfl rfl rfl (bi) ?_
    rw [rt_v (rr_T h) i0 hk]
    refine wq_s 32 d312_30 rfl rfl (Nat.le_of_ble_eq_true rfl) rfl rfl ?_
    refine wq_l 33 d312_32 rfl rfl rfl rfl ?_
    refine wq_b 44 36 d312_33 rfl (by decide) rfl (fun c33 => absurd c33 (by decide)) (fun c33 => ?_)
    refine wq_l 37 d312_36 rfl rfl rfl rfl ?_
    refine wq_b 44 40 d312_37 rfl (by decide) rfl (fun c37 => absurd c37 (by decide)) (fun c37 => ?_)
    refine wq_k 41 1 d312_40 (by decide) rfl ?_
    refine wq_g 45 d312_41 (by decide) ?_
    refine wq_s 47 d312_45 rfl rfl (Nat.le_of_ble_eq_true rfl) rfl rfl ?_
    refine wq_l 48 d312_47 rfl rfl rfl rfl ?_
    refine wq_b 59 51 d312_48 rfl (by decide) rfl (fun c48 => ?_) (fun c48 => absurd (by decide) c48)
    refine wq_k 60 0 d312_59 (by decide) rfl ?_
    refine wq_s 62 d312_60 rfl rfl (Nat.le_of_ble_eq_true rfl) rfl rfl ?_
    refine wq_l 64 d312_62 rfl rfl rfl rfl ?_
    refine wq_b 78 67 d312_64 rfl (by decide) rfl (fun c64 => ?_) (fun c64 => absurd (by decide) c64)
    refine wq_k 79 1 d312_78 (by decide) rfl ?_
    refine wq_g 83 d312_79 (by decide) ?_
    refine wq_s 85 d312_83 rfl rfl (Nat.le_of_ble_eq_true rfl) rfl rfl ?_
    refine wq_l 86 d312_85 rfl rfl rfl rfl ?_
    refine wq_gr (ci := 10) (j := 23) (q := 56) 89 d312_86 rfl rfl rfl rfl ?_
    refine wq_l 90 d312_89 rfl rfl rfl rfl ?_
    refine wq_l 92 d312_90 rfl rfl rfl rfl ?_
    refine wq_k 93 2 d312_92 (by decide) rfl ?_
    refine wq_b 107 96 d312_93 rfl (by decide) rfl (fun c93 => ?_) (fun c93 => ?_)
    · -- pc 107
      refine wq_l 108 d312_107 rfl rfl rfl rfl ?_
      refine wq_l 109 d312_108 rfl rfl rfl rfl ?_
      refine wq_vs 112 [_, _] d312_109 rfl rfl m311 rfl (Nat.le_of_ble_eq_true rfl) rfl (sp311 ?_)
      rw [if_neg (by decide)]
      refine wq_as 113 d312_112 rfl rfl rfl (bi) ?_
      have hS := rr_ty h i0 2
      refine wq_l 115 d312_113 rfl rfl rfl rfl ?_
      refine wq_b 122 118 d312_115 rfl (by decide) rfl (fun c115 => absurd c115 (by decide)) (fun c115 => ?_)
      refine wq_k 119 0 d312_118 (by decide) rfl ?_
      refine wq_g 124 d312_119 (by decide) ?_
      refine wq_ri d312_124 (rfl) ?_
      have g93 : (rl_v l i).toInt ≤ 2 := by rw [i_le] at c93; have c93 : _ ≤ (2 : Int) := c93; omega
      rw [rl_two0 (r := 2) (K := 2) ((ite_congr rfl (fun _ => (by decide : rl_com 1 2 = 2)) (fun _ => (by decide : rl_wid 1 2 = 2))).trans (ite_self _)) (by decide) (if_neg (by omega))] at hQ
      exact rr_q0 hQ hS rfl
    · -- pc 96
      refine wq_l 98 d312_96 rfl rfl rfl rfl ?_
      refine wq_k 100 9 d312_98 (by decide) rfl ?_
      refine wq_b 107 103 d312_100 rfl (by decide) rfl (fun c100 => ?_) (fun c100 => ?_)
      · -- pc 107
        refine wq_l 108 d312_107 rfl rfl rfl rfl ?_
        refine wq_l 109 d312_108 rfl rfl rfl rfl ?_
        refine wq_vs 112 [_, _] d312_109 rfl rfl m311 rfl (Nat.le_of_ble_eq_true rfl) rfl (sp311 ?_)
        rw [if_neg (by decide)]
        refine wq_as 113 d312_112 rfl rfl rfl (bi) ?_
        have hS := rr_ty h i0 2
        refine wq_l 115 d312_113 rfl rfl rfl rfl ?_
        refine wq_b 122 118 d312_115 rfl (by decide) rfl (fun c115 => absurd c115 (by decide)) (fun c115 => ?_)
        refine wq_k 119 0 d312_118 (by decide) rfl ?_
        refine wq_g 124 d312_119 (by decide) ?_
        refine wq_ri d312_124 (rfl) ?_
        have g93 : 2 < (rl_v l i).toInt := by rw [i_le] at c93; have c93 : ¬ _ ≤ (2 : Int) := c93; omega
        have g100 : 9 ≤ (rl_v l i).toInt := by rw [i_le] at c100; have c100 : (9 : Int) ≤ _ := c100; omega
        rw [rl_two0 (r := 2) (K := 2) ((ite_congr rfl (fun _ => (by decide : rl_com 1 2 = 2)) (fun _ => (by decide : rl_wid 1 2 = 2))).trans (ite_self _)) (by decide) (if_neg (by omega))] at hQ
        exact rr_q0 hQ hS rfl
      · -- pc 103
        refine wq_k 104 0 d312_103 (by decide) rfl ?_
        refine wq_g 112 d312_104 (by decide) ?_
        refine wq_as 113 d312_112 rfl rfl rfl (bi) ?_
        have hS := rr_ty h i0 0
        refine wq_l 115 d312_113 rfl rfl rfl rfl ?_
        refine wq_b 122 118 d312_115 rfl (by decide) rfl (fun c115 => absurd c115 (by decide)) (fun c115 => ?_)
        refine wq_k 119 0 d312_118 (by decide) rfl ?_
        refine wq_g 124 d312_119 (by decide) ?_
        refine wq_ri d312_124 (rfl) ?_
        have g93 : 2 < (rl_v l i).toInt := by rw [i_le] at c93; have c93 : ¬ _ ≤ (2 : Int) := c93; omega
        have g100 : (rl_v l i).toInt < 9 := by rw [i_le] at c100; have c100 : ¬ (9 : Int) ≤ _ := c100; omega
        rw [rl_two0 (r := 0) (K := 2) ((ite_congr rfl (fun _ => (by decide : rl_com 1 2 = 2)) (fun _ => (by decide : rl_wid 1 2 = 2))).trans (ite_self _)) (by decide) (if_pos (by omega))] at hQ
        exact rr_q0 hQ hS rfl
  · rw [e1, e2] at hQ
    refine wq_m m312 (Nat.le_of_ble_eq_true rfl) (by decide) rfl ?_
    refine wq_l 1 d312_0 rfl rfl rfl rfl ?_
    refine wq_gr (ci := 10) (j := 23) (q := 56) 4 d312_1 rfl rfl rfl rfl ?_
    refine wq_l 5 d312_4 rfl rfl rfl rfl ?_
    refine wq_gr (ci := 10) (j := 19) (q := 52) 8 d312_5 rfl rfl rfl rfl ?_
    refine wq_l 9 d312_8 rfl rfl rfl rfl ?_
    refine wq_al 10 d312_9 rfl rfl rfl (bi) ?_
    rw [ef]
    refine wq_al 11 d312_10 rfl rfl rfl (rt_b (rr_T h) hi) ?_
    rw [rt_t h hi, e1]
    refine wq_s 12 d312_11 rfl rfl (Nat.le_of_ble_eq_true rfl) rfl rfl ?_
    refine wq_l 13 d312_12 rfl rfl rfl rfl ?_
    refine wq_gr (ci := 10) (j := 23) (q := 56) 16 d312_13 rfl rfl rfl rfl ?_
    refine wq_l 17 d312_16 rfl rfl rfl rfl ?_
    refine wq_gr (ci := 10) (j := 20) (q := 53) 20 d312_17 rfl rfl rfl rfl ?_
    refine wq_l 21 d312_20 rfl rfl rfl rfl ?_
    refine wq_al 22 d312_21 rfl rfl rfl (bi) ?_
    rw [el]
    refine wq_al 23 d312_22 rfl rfl rfl (rt_b (rr_T h) hj) ?_
    rw [rt_t h hj, e2]
    refine wq_s 24 d312_23 rfl rfl (Nat.le_of_ble_eq_true rfl) rfl rfl ?_
    refine wq_l 25 d312_24 rfl rfl rfl rfl ?_
    refine wq_gr (ci := 10) (j := 18) (q := 51) 28 d312_25 rfl rfl rfl rfl ?_
    refine wq_l 29 d312_28 rfl rfl rfl rfl ?_
    refine wq_al 30 d312_29 rfl rfl rfl (bi) ?_
    rw [rt_v (rr_T h) i0 hk]
    refine wq_s 32 d312_30 rfl rfl (Nat.le_of_ble_eq_true rfl) rfl rfl ?_
    refine wq_l 33 d312_32 rfl rfl rfl rfl ?_
    refine wq_b 44 36 d312_33 rfl (by decide) rfl (fun c33 => absurd c33 (by decide)) (fun c33 => ?_)
    refine wq_l 37 d312_36 rfl rfl rfl rfl ?_
    refine wq_b 44 40 d312_37 rfl (by decide) rfl (fun c37 => ?_) (fun c37 => absurd (by decide) c37)
    refine wq_k 45 0 d312_44 (by decide) rfl ?_
    refine wq_s 47 d312_45 rfl rfl (Nat.le_of_ble_eq_true rfl) rfl rfl ?_
    refine wq_l 48 d312_47 rfl rfl rfl rfl ?_
    refine wq_b 59 51 d312_48 rfl (by decide) rfl (fun c48 => ?_) (fun c48 => absurd (by decide) c48)
    refine wq_k 60 0 d312_59 (by decide) rfl ?_
    refine wq_s 62 d312_60 rfl rfl (Nat.le_of_ble_eq_true rfl) rfl rfl ?_
    refine wq_l 64 d312_62 rfl rfl rfl rfl ?_
    refine wq_b 78 67 d312_64 rfl (by decide) rfl (fun c64 => absurd c64 (by decide)) (fun c64 => ?_)
    refine wq_l 69 d312_67 rfl rfl rfl rfl ?_
    refine wq_b 82 72 d312_69 rfl (by decide) rfl (fun c69 => ?_) (fun c69 => absurd (by decide) c69)
    refine wq_k 83 0 d312_82 (by decide) rfl ?_
    refine wq_s 85 d312_83 rfl rfl (Nat.le_of_ble_eq_true rfl) rfl rfl ?_
    refine wq_l 86 d312_85 rfl rfl rfl rfl ?_
    refine wq_gr (ci := 10) (j := 23) (q := 56) 89 d312_86 rfl rfl rfl rfl ?_
    refine wq_l 90 d312_89 rfl rfl rfl rfl ?_
    refine wq_l 92 d312_90 rfl rfl rfl rfl ?_
    refine wq_k 93 2 d312_92 (by decide) rfl ?_
    refine wq_b 107 96 d312_93 rfl (by decide) rfl (fun c93 => ?_) (fun c93 => ?_)
    · -- pc 107
      refine wq_l 108 d312_107 rfl rfl rfl rfl ?_
      refine wq_l 109 d312_108 rfl rfl rfl rfl ?_
      refine wq_vs 112 [_, _] d312_109 rfl rfl m311 rfl (Nat.le_of_ble_eq_true rfl) rfl (sp311 ?_)
      rw [if_pos (by decide)]
      refine wq_as 113 d312_112 rfl rfl rfl (bi) ?_
      have hS := rr_ty h i0 2
      refine wq_l 115 d312_113 rfl rfl rfl rfl ?_
      refine wq_b 122 118 d312_115 rfl (by decide) rfl (fun c115 => ?_) (fun c115 => absurd (by decide) c115)
      refine wq_k 124 27 d312_122 (by decide) rfl ?_
      refine wq_ri d312_124 (rfl) ?_
      rw [rl_two1 ((ite_congr rfl (fun _ => (by decide : rl_com 2 0 = -1)) (fun _ => (by decide : rl_wid 2 0 = -1))).trans (ite_self _))] at hQ
      exact rr_q1 (k := 27) hQ (rr_Fi hS) rfl (by decide)
    · -- pc 96
      refine wq_l 98 d312_96 rfl rfl rfl rfl ?_
      refine wq_k 100 9 d312_98 (by decide) rfl ?_
      refine wq_b 107 103 d312_100 rfl (by decide) rfl (fun c100 => ?_) (fun c100 => ?_)
      · -- pc 107
        refine wq_l 108 d312_107 rfl rfl rfl rfl ?_
        refine wq_l 109 d312_108 rfl rfl rfl rfl ?_
        refine wq_vs 112 [_, _] d312_109 rfl rfl m311 rfl (Nat.le_of_ble_eq_true rfl) rfl (sp311 ?_)
        rw [if_pos (by decide)]
        refine wq_as 113 d312_112 rfl rfl rfl (bi) ?_
        have hS := rr_ty h i0 2
        refine wq_l 115 d312_113 rfl rfl rfl rfl ?_
        refine wq_b 122 118 d312_115 rfl (by decide) rfl (fun c115 => ?_) (fun c115 => absurd (by decide) c115)
        refine wq_k 124 27 d312_122 (by decide) rfl ?_
        refine wq_ri d312_124 (rfl) ?_
        rw [rl_two1 ((ite_congr rfl (fun _ => (by decide : rl_com 2 0 = -1)) (fun _ => (by decide : rl_wid 2 0 = -1))).trans (ite_self _))] at hQ
        exact rr_q1 (k := 27) hQ (rr_Fi hS) rfl (by decide)
      · -- pc 103
        refine wq_k 104 0 d312_103 (by decide) rfl ?_
        refine wq_g 112 d312_104 (by decide) ?_
        refine wq_as 113 d312_112 rfl rfl rfl (bi) ?_
        have hS := rr_ty h i0 0
        refine wq_l 115 d312_113 rfl rfl rfl rfl ?_
        refine wq_b 122 118 d312_115 rfl (by decide) rfl (fun c115 => ?_) (fun c115 => absurd (by decide) c115)
        refine wq_k 124 27 d312_122 (by decide) rfl ?_
        refine wq_ri d312_124 (rfl) ?_
        rw [rl_two1 ((ite_congr rfl (fun _ => (by decide : rl_com 2 0 = -1)) (fun _ => (by decide : rl_wid 2 0 = -1))).trans (ite_self _))] at hQ
        exact rr_q1 (k := 27) hQ (rr_Fi hS) rfl (by decide)
  · rw [e1, e2] at hQ
    refine wq_m m312 (Nat.le_of_ble_eq_true rfl) (by decide) rfl ?_
    refine wq_l 1 d312_0 rfl rfl rfl rfl ?_
    refine wq_gr (ci := 10) (j := 23) (q := 56) 4 d312_1 rfl rfl rfl rfl ?_
    refine wq_l 5 d312_4 rfl rfl rfl rfl ?_
    refine wq_gr (ci := 10) (j := 19) (q := 52) 8 d312_5 rfl rfl rfl rfl ?_
    refine wq_l 9 d312_8 rfl rfl rfl rfl ?_
    refine wq_al 10 d312_9 rfl rfl rfl (bi) ?_
    rw [ef]
    refine wq_al 11 d312_10 rfl rfl rfl (rt_b (rr_T h) hi) ?_
    rw [rt_t h hi, e1]
    refine wq_s 12 d312_11 rfl rfl (Nat.le_of_ble_eq_true rfl) rfl rfl ?_
    refine wq_l 13 d312_12 rfl rfl rfl rfl ?_
    refine wq_gr (ci := 10) (j := 23) (q := 56) 16 d312_13 rfl rfl rfl rfl ?_
    refine wq_l 17 d312_16 rfl rfl rfl rfl ?_
    refine wq_gr (ci := 10) (j := 20) (q := 53) 20 d312_17 rfl rfl rfl rfl ?_
    refine wq_l 21 d312_20 rfl rfl rfl rfl ?_
    refine wq_al 22 d312_21 rfl rfl rfl (bi) ?_
    rw [el]
    refine wq_al 23 d312_22 rfl rfl rfl (rt_b (rr_T h) hj) ?_
    rw [rt_t h hj, e2]
    refine wq_s 24 d312_23 rfl rfl (Nat.le_of_ble_eq_true rfl) rfl rfl ?_
    refine wq_l 25 d312_24 rfl rfl rfl rfl ?_
    refine wq_gr (ci := 10) (j := 18) (q := 51) 28 d312_25 rfl rfl rfl rfl ?_
    refine wq_l 29 d312_28 rfl rfl rfl rfl ?_
    refine wq_al 30 d312_29 rfl rfl rfl (bi) ?_
    rw [rt_v (rr_T h) i0 hk]
    refine wq_s 32 d312_30 rfl rfl (Nat.le_of_ble_eq_true rfl) rfl rfl ?_
    refine wq_l 33 d312_32 rfl rfl rfl rfl ?_
    refine wq_b 44 36 d312_33 rfl (by decide) rfl (fun c33 => absurd c33 (by decide)) (fun c33 => ?_)
    refine wq_l 37 d312_36 rfl rfl rfl rfl ?_
    refine wq_b 44 40 d312_37 rfl (by decide) rfl (fun c37 => absurd c37 (by decide)) (fun c37 => ?_)
    refine wq_k 41 1 d312_40 (by decide) rfl ?_
    refine wq_g 45 d312_41 (by decide) ?_
    refine wq_s 47 d312_45 rfl rfl (Nat.le_of_ble_eq_true rfl) rfl rfl ?_
    refine wq_l 48 d312_47 rfl rfl rfl rfl ?_
    refine wq_b 59 51 d312_48 rfl (by decide) rfl (fun c48 => ?_) (fun c48 => absurd (by decide) c48)
    refine wq_k 60 0 d312_59 (by decide) rfl ?_
    refine wq_s 62 d312_60 rfl rfl (Nat.le_of_ble_eq_true rfl) rfl rfl ?_
    refine wq_l 64 d312_62 rfl rfl rfl rfl ?_
    refine wq_b 78 67 d312_64 rfl (by decide) rfl (fun c64 => ?_) (fun c64 => absurd (by decide) c64)
    refine wq_k 79 1 d312_78 (by decide) rfl ?_
    refine wq_g 83 d312_79 (by decide) ?_
    refine wq_s 85 d312_83 rfl rfl (Nat.le_of_ble_eq_true rfl) rfl rfl ?_
    refine wq_l 86 d312_85 rfl rfl rfl rfl ?_
    refine wq_gr (ci := 10) (j := 23) (q := 56) 89 d312_86 rfl rfl rfl rfl ?_
    refine wq_l 90 d312_89 rfl rfl rfl rfl ?_
    refine wq_l 92 d312_90 rfl rfl rfl rfl ?_
    refine wq_k 93 2 d312_92 (by decide) rfl ?_
    refine wq_b 107 96 d312_93 rfl (by decide) rfl (fun c93 => ?_) (fun c93 => ?_)
    · -- pc 107
      refine wq_l 108 d312_107 rfl rfl rfl rfl ?_
      refine wq_l 109 d312_108 rfl rfl rfl rfl ?_
      refine wq_vs 112 [_, _] d312_109 rfl rfl m311 rfl (Nat.le_of_ble_eq_true rfl) rfl (sp311 ?_)
      rw [if_pos (by decide)]
      refine wq_as 113 d312_112 rfl rfl rfl (bi) ?_
      have hS := rr_ty h i0 2
      refine wq_l 115 d312_113 rfl rfl rfl rfl ?_
      refine wq_b 122 118 d312_115 rfl (by decide) rfl (fun c115 => absurd c115 (by decide)) (fun c115 => ?_)
      refine wq_k 119 0 d312_118 (by decide) rfl ?_
      refine wq_g 124 d312_119 (by decide) ?_
      refine wq_ri d312_124 (rfl) ?_
      have g93 : (rl_v l i).toInt ≤ 2 := by rw [i_le] at c93; have c93 : _ ≤ (2 : Int) := c93; omega
      rw [rl_two0 (r := 2) (K := 2) ((ite_congr rfl (fun _ => (by decide : rl_com 2 1 = 2)) (fun _ => (by decide : rl_wid 2 1 = 2))).trans (ite_self _)) (by decide) (if_neg (by omega))] at hQ
      exact rr_q0 hQ hS rfl
    · -- pc 96
      refine wq_l 98 d312_96 rfl rfl rfl rfl ?_
      refine wq_k 100 9 d312_98 (by decide) rfl ?_
      refine wq_b 107 103 d312_100 rfl (by decide) rfl (fun c100 => ?_) (fun c100 => ?_)
      · -- pc 107
        refine wq_l 108 d312_107 rfl rfl rfl rfl ?_
        refine wq_l 109 d312_108 rfl rfl rfl rfl ?_
        refine wq_vs 112 [_, _] d312_109 rfl rfl m311 rfl (Nat.le_of_ble_eq_true rfl) rfl (sp311 ?_)
        rw [if_pos (by decide)]
        refine wq_as 113 d312_112 rfl rfl rfl (bi) ?_
        have hS := rr_ty h i0 2
        refine wq_l 115 d312_113 rfl rfl rfl rfl ?_
        refine wq_b 122 118 d312_115 rfl (by decide) rfl (fun c115 => absurd c115 (by decide)) (fun c115 => ?_)
        refine wq_k 119 0 d312_118 (by decide) rfl ?_
        refine wq_g 124 d312_119 (by decide) ?_
        refine wq_ri d312_124 (rfl) ?_
        have g93 : 2 < (rl_v l i).toInt := by rw [i_le] at c93; have c93 : ¬ _ ≤ (2 : Int) := c93; omega
        have g100 : 9 ≤ (rl_v l i).toInt := by rw [i_le] at c100; have c100 : (9 : Int) ≤ _ := c100; omega
        rw [rl_two0 (r := 2) (K := 2) ((ite_congr rfl (fun _ => (by decide : rl_com 2 1 = 2)) (fun _ => (by decide : rl_wid 2 1 = 2))).trans (ite_self _)) (by decide) (if_neg (by omega))] at hQ
        exact rr_q0 hQ hS rfl
      · -- pc 103
        refine wq_k 104 0 d312_103 (by decide) rfl ?_
        refine wq_g 112 d312_104 (by decide) ?_
        refine wq_as 113 d312_112 rfl rfl rfl (bi) ?_
        have hS := rr_ty h i0 0
        refine wq_l 115 d312_113 rfl rfl rfl rfl ?_
        refine wq_b 122 118 d312_115 rfl (by decide) rfl (fun c115 => absurd c115 (by decide)) (fun c115 => ?_)
        refine wq_k 119 0 d312_118 (by decide) rfl ?_
        refine wq_g 124 d312_119 (by decide) ?_
        refine wq_ri d312_124 (rfl) ?_
        have g93 : 2 < (rl_v l i).toInt := by rw [i_le] at c93; have c93 : ¬ _ ≤ (2 : Int) := c93; omega
        have g100 : (rl_v l i).toInt < 9 := by rw [i_le] at c100; have c100 : ¬ (9 : Int) ≤ _ := c100; omega
        rw [rl_two0 (r := 0) (K := 2) ((ite_congr rfl (fun _ => (by decide : rl_com 2 1 = 2)) (fun _ => (by decide : rl_wid 2 1 = 2))).trans (ite_self _)) (by decide) (if_pos (by omega))] at hQ
        exact rr_q0 hQ hS rfl
  · rw [e1, e2] at hQ
    refine wq_m m312 (Nat.le_of_ble_eq_true rfl) (by decide) rfl ?_
    refine wq_l 1 d312_0 rfl rfl rfl rfl ?_
    refine wq_gr (ci := 10) (j := 23) (q := 56) 4 d312_1 rfl rfl rfl rfl ?_
    refine wq_l 5 d312_4 rfl rfl rfl rfl ?_
    refine wq_gr (ci := 10) (j := 19) (q := 52) 8 d312_5 rfl rfl rfl rfl ?_
    refine wq_l 9 d312_8 rfl rfl rfl rfl ?_
    refine wq_al 10 d312_9 rfl rfl rfl (bi) ?_
    rw [ef]
    refine wq_al 11 d312_10 rfl rfl rfl (rt_b (rr_T h) hi) ?_
    rw [rt_t h hi, e1]
    refine wq_s 12 d312_11 rfl rfl (Nat.le_of_ble_eq_true rfl) rfl rfl ?_
    refine wq_l 13 d312_12 rfl rfl rfl rfl ?_
    refine wq_gr (ci := 10) (j := 23) (q := 56) 16 d312_13 rfl rfl rfl rfl ?_
    refine wq_l 17 d312_16 rfl rfl rfl rfl ?_
    refine wq_gr (ci := 10) (j := 20) (q := 53) 20 d312_17 rfl rfl rfl rfl ?_
    refine wq_l 21 d312_20 rfl rfl rfl rfl ?_
    refine wq_al 22 d312_21 rfl rfl rfl (bi) ?_
    rw [el]
    refine wq_al 23 d312_22 rfl rfl rfl (rt_b (rr_T h) hj) ?_
    rw [rt_t h hj, e2]
    refine wq_s 24 d312_23 rfl rfl (Nat.le_of_ble_eq_true rfl) rfl rfl ?_
    refine wq_l 25 d312_24 rfl rfl rfl rfl ?_
    refine wq_gr (ci := 10) (j := 18) (q := 51) 28 d312_25 rfl rfl rfl rfl ?_
    refine wq_l 29 d312_28 rfl rfl rfl rfl ?_
    refine wq_al 30 d312_29 rfl rfl rfl (bi) ?_
    rw [rt_v (rr_T h) i0 hk]
    refine wq_s 32 d312_30 rfl rfl (Nat.le_of_ble_eq_true rfl) rfl rfl ?_
    refine wq_l 33 d312_32 rfl rfl rfl rfl ?_
    refine wq_b 44 36 d312_33 rfl (by decide) rfl (fun c33 => absurd c33 (by decide)) (fun c33 => ?_)
    refine wq_l 37 d312_36 rfl rfl rfl rfl ?_
    refine wq_b 44 40 d312_37 rfl (by decide) rfl (fun c37 => absurd c37 (by decide)) (fun c37 => ?_)
    refine wq_k 41 1 d312_40 (by decide) rfl ?_
    refine wq_g 45 d312_41 (by decide) ?_
    refine wq_s 47 d312_45 rfl rfl (Nat.le_of_ble_eq_true rfl) rfl rfl ?_
    refine wq_l 48 d312_47 rfl rfl rfl rfl ?_
    refine wq_b 59 51 d312_48 rfl (by decide) rfl (fun c48 => ?_) (fun c48 => absurd (by decide) c48)
    refine wq_k 60 0 d312_59 (by decide) rfl ?_
    refine wq_s 62 d312_60 rfl rfl (Nat.le_of_ble_eq_true rfl) rfl rfl ?_
    refine wq_l 64 d312_62 rfl rfl rfl rfl ?_
    refine wq_b 78 67 d312_64 rfl (by decide) rfl (fun c64 => ?_) (fun c64 => absurd (by decide) c64)
    refine wq_k 79 1 d312_78 (by decide) rfl ?_
    refine wq_g 83 d312_79 (by decide) ?_
    refine wq_s 85 d312_83 rfl rfl (Nat.le_of_ble_eq_true rfl) rfl rfl ?_
    refine wq_l 86 d312_85 rfl rfl rfl rfl ?_
    refine wq_gr (ci := 10) (j := 23) (q := 56) 89 d312_86 rfl rfl rfl rfl ?_
    refine wq_l 90 d312_89 rfl rfl rfl rfl ?_
    refine wq_l 92 d312_90 rfl rfl rfl rfl ?_
    refine wq_k 93 2 d312_92 (by decide) rfl ?_
    refine wq_b 107 96 d312_93 rfl (by decide) rfl (fun c93 => ?_) (fun c93 => ?_)
    · -- pc 107
      refine wq_l 108 d312_107 rfl rfl rfl rfl ?_
      refine wq_l 109 d312_108 rfl rfl rfl rfl ?_
      refine wq_vs 112 [_, _] d312_109 rfl rfl m311 rfl (Nat.le_of_ble_eq_true rfl) rfl (sp311 ?_)
      rw [if_neg (by decide)]
      refine wq_as 113 d312_112 rfl rfl rfl (bi) ?_
      have hS := rr_ty h i0 2
      refine wq_l 115 d312_113 rfl rfl rfl rfl ?_
      refine wq_b 122 118 d312_115 rfl (by decide) rfl (fun c115 => absurd c115 (by decide)) (fun c115 => ?_)
      refine wq_k 119 0 d312_118 (by decide) rfl ?_
      refine wq_g 124 d312_119 (by decide) ?_
      refine wq_ri d312_124 (rfl) ?_
      have g93 : (rl_v l i).toInt ≤ 2 := by rw [i_le] at c93; have c93 : _ ≤ (2 : Int) := c93; omega
      rw [rl_two0 (r := 2) (K := 2) ((ite_congr rfl (fun _ => (by decide : rl_com 2 2 = 2)) (fun _ => (by decide : rl_wid 2 2 = 2))).trans (ite_self _)) (by decide) (if_neg (by omega))] at hQ
      exact rr_q0 hQ hS rfl
    · -- pc 96
      refine wq_l 98 d312_96 rfl rfl rfl rfl ?_
      refine wq_k 100 9 d312_98 (by decide) rfl ?_
      refine wq_b 107 103 d312_100 rfl (by decide) rfl (fun c100 => ?_) (fun c100 => ?_)
      · -- pc 107
        refine wq_l 108 d312_107 rfl rfl rfl rfl ?_
        refine wq_l 109 d312_108 rfl rfl rfl rfl ?_
        refine wq_vs 112 [_, _] d312_109 rfl rfl m311 rfl (Nat.le_of_ble_eq_true rfl) rfl (sp311 ?_)
        rw [if_neg (by decide)]
        refine wq_as 113 d312_112 rfl rfl rfl (bi) ?_
        have hS := rr_ty h i0 2
        refine wq_l 115 d312_113 rfl rfl rfl rfl ?_
        refine wq_b 122 118 d312_115 rfl (by decide) rfl (fun c115 => absurd c115 (by decide)) (fun c115 => ?_)
        refine wq_k 119 0 d312_118 (by decide) rfl ?_
        refine wq_g 124 d312_119 (by decide) ?_
        refine wq_ri d312_124 (rfl) ?_
        have g93 : 2 < (rl_v l i).toInt := by rw [i_le] at c93; have c93 : ¬ _ ≤ (2 : Int) := c93; omega
        have g100 : 9 ≤ (rl_v l i).toInt := by rw [i_le] at c100; have c100 : (9 : Int) ≤ _ := c100; omega
        rw [rl_two0 (r := 2) (K := 2) ((ite_congr rfl (fun _ => (by decide : rl_com 2 2 = 2)) (fun _ => (by decide : rl_wid 2 2 = 2))).trans (ite_self _)) (by decide) (if_neg (by omega))] at hQ
        exact rr_q0 hQ hS rfl
      · -- pc 103
        refine wq_k 104 0 d312_103 (by decide) rfl ?_
        refine wq_g 112 d312_104 (by decide) ?_
        refine wq_as 113 d312_112 rfl rfl rfl (bi) ?_
        have hS := rr_ty h i0 0
        refine wq_l 115 d312_113 rfl rfl rfl rfl ?_
        refine wq_b 122 118 d312_115 rfl (by decide) rfl (fun c115 => absurd c115 (by decide)) (fun c115 => ?_)
        refine wq_k 119 0 d312_118 (by decide) rfl ?_
        refine wq_g 124 d312_119 (by decide) ?_
        refine wq_ri d312_124 (rfl) ?_
        have g93 : 2 < (rl_v l i).toInt := by rw [i_le] at c93; have c93 : ¬ _ ≤ (2 : Int) := c93; omega
        have g100 : (rl_v l i).toInt < 9 := by rw [i_le] at c100; have c100 : ¬ (9 : Int) ≤ _ := c100; omega
        rw [rl_two0 (r := 0) (K := 2) ((ite_congr rfl (fun _ => (by decide : rl_com 2 2 = 2)) (fun _ => (by decide : rl_wid 2 2 = 2))).trans (ite_self _)) (by decide) (if_pos (by omega))] at hQ
        exact rr_q0 hQ hS rfl
