theorem d268_0 : decode prog_14_method_72_code 0 = .ok (.lload_n 0, 1) := by decide +kernel
theorem d268_1 : decode prog_14_method_72_code 1 = .ok (.ldc2_w 494, 3) := by decide +kernel
theorem d268_4 : decode prog_14_method_72_code 4 = .ok (.lcmp, 1) := by decide +kernel
theorem d268_5 : decode prog_14_method_72_code 5 = .ok (.ifCond .ne 7, 3) := by decide +kernel
theorem d268_8 : decode prog_14_method_72_code 8 = .ok (.sipush 10100, 3) := by decide +kernel
theorem d268_11 : decode prog_14_method_72_code 11 = .ok (.ireturn, 1) := by decide +kernel
theorem d268_12 : decode prog_14_method_72_code 12 = .ok (.lload_n 0, 1) := by decide +kernel
theorem d268_13 : decode prog_14_method_72_code 13 = .ok (.ldc2_w 496, 3) := by decide +kernel
theorem d268_16 : decode prog_14_method_72_code 16 = .ok (.lcmp, 1) := by decide +kernel
theorem d268_17 : decode prog_14_method_72_code 17 = .ok (.ifCond .ne 7, 3) := by decide +kernel
theorem d268_20 : decode prog_14_method_72_code 20 = .ok (.sipush 10101, 3) := by decide +kernel
theorem d268_23 : decode prog_14_method_72_code 23 = .ok (.ireturn, 1) := by decide +kernel
theorem d268_24 : decode prog_14_method_72_code 24 = .ok (.lload_n 0, 1) := by decide +kernel
theorem d268_25 : decode prog_14_method_72_code 25 = .ok (.ldc2_w 498, 3) := by decide +kernel
theorem d268_28 : decode prog_14_method_72_code 28 = .ok (.lcmp, 1) := by decide +kernel
theorem d268_29 : decode prog_14_method_72_code 29 = .ok (.ifCond .ne 7, 3) := by decide +kernel
theorem d268_32 : decode prog_14_method_72_code 32 = .ok (.sipush 10102, 3) := by decide +kernel
theorem d268_35 : decode prog_14_method_72_code 35 = .ok (.ireturn, 1) := by decide +kernel
theorem d268_36 : decode prog_14_method_72_code 36 = .ok (.lload_n 0, 1) := by decide +kernel
theorem d268_37 : decode prog_14_method_72_code 37 = .ok (.ldc2_w 500, 3) := by decide +kernel
theorem d268_40 : decode prog_14_method_72_code 40 = .ok (.lcmp, 1) := by decide +kernel
theorem d268_41 : decode prog_14_method_72_code 41 = .ok (.ifCond .ne 7, 3) := by decide +kernel
theorem d268_44 : decode prog_14_method_72_code 44 = .ok (.sipush 10103, 3) := by decide +kernel
theorem d268_47 : decode prog_14_method_72_code 47 = .ok (.ireturn, 1) := by decide +kernel
theorem d268_48 : decode prog_14_method_72_code 48 = .ok (.lload_n 0, 1) := by decide +kernel
theorem d268_49 : decode prog_14_method_72_code 49 = .ok (.ldc2_w 502, 3) := by decide +kernel
theorem d268_52 : decode prog_14_method_72_code 52 = .ok (.lcmp, 1) := by decide +kernel
theorem d268_53 : decode prog_14_method_72_code 53 = .ok (.ifCond .ne 7, 3) := by decide +kernel
theorem d268_56 : decode prog_14_method_72_code 56 = .ok (.sipush 10104, 3) := by decide +kernel
theorem d268_59 : decode prog_14_method_72_code 59 = .ok (.ireturn, 1) := by decide +kernel
theorem d268_60 : decode prog_14_method_72_code 60 = .ok (.lload_n 0, 1) := by decide +kernel
theorem d268_61 : decode prog_14_method_72_code 61 = .ok (.ldc2_w 504, 3) := by decide +kernel
theorem d268_64 : decode prog_14_method_72_code 64 = .ok (.lcmp, 1) := by decide +kernel
theorem d268_65 : decode prog_14_method_72_code 65 = .ok (.ifCond .ne 7, 3) := by decide +kernel
theorem d268_68 : decode prog_14_method_72_code 68 = .ok (.sipush 10105, 3) := by decide +kernel
theorem d268_71 : decode prog_14_method_72_code 71 = .ok (.ireturn, 1) := by decide +kernel
theorem d268_72 : decode prog_14_method_72_code 72 = .ok (.lload_n 0, 1) := by decide +kernel
theorem d268_73 : decode prog_14_method_72_code 73 = .ok (.ldc2_w 506, 3) := by decide +kernel
theorem d268_76 : decode prog_14_method_72_code 76 = .ok (.lcmp, 1) := by decide +kernel
theorem d268_77 : decode prog_14_method_72_code 77 = .ok (.ifCond .ne 7, 3) := by decide +kernel
theorem d268_80 : decode prog_14_method_72_code 80 = .ok (.sipush 10106, 3) := by decide +kernel
theorem d268_83 : decode prog_14_method_72_code 83 = .ok (.ireturn, 1) := by decide +kernel
theorem d268_84 : decode prog_14_method_72_code 84 = .ok (.lload_n 0, 1) := by decide +kernel
theorem d268_85 : decode prog_14_method_72_code 85 = .ok (.ldc2_w 508, 3) := by decide +kernel
theorem d268_88 : decode prog_14_method_72_code 88 = .ok (.lcmp, 1) := by decide +kernel
theorem d268_89 : decode prog_14_method_72_code 89 = .ok (.ifCond .ne 7, 3) := by decide +kernel
theorem d268_92 : decode prog_14_method_72_code 92 = .ok (.sipush 10107, 3) := by decide +kernel
theorem d268_95 : decode prog_14_method_72_code 95 = .ok (.ireturn, 1) := by decide +kernel
theorem d268_96 : decode prog_14_method_72_code 96 = .ok (.lload_n 0, 1) := by decide +kernel
theorem d268_97 : decode prog_14_method_72_code 97 = .ok (.ldc2_w 510, 3) := by decide +kernel
theorem d268_100 : decode prog_14_method_72_code 100 = .ok (.lcmp, 1) := by decide +kernel
theorem d268_101 : decode prog_14_method_72_code 101 = .ok (.ifCond .ne 9, 3) := by decide +kernel
theorem d268_104 : decode prog_14_method_72_code 104 = .ok (.sipush 10108, 3) := by decide +kernel
theorem d268_107 : decode prog_14_method_72_code 107 = .ok (.goto 4, 3) := by decide +kernel
theorem d268_110 : decode prog_14_method_72_code 110 = .ok (.iconst (-1), 1) := by decide +kernel
theorem d268_111 : decode prog_14_method_72_code 111 = .ok (.ireturn, 1) := by decide +kernel
theorem m268 : pm_m 268 = some (⟨"TypeRulesModel", "blockOf", "(J)I"⟩, prog_14_method_72_code, 2, (some FieldType.int), 10, 1, 0) := rfl
theorem d269_0 : decode prog_14_method_71_code 0 = .ok (.lload_n 0, 1) := by decide +kernel
theorem d269_1 : decode prog_14_method_71_code 1 = .ok (.ldc2_w 474, 3) := by decide +kernel
theorem d269_4 : decode prog_14_method_71_code 4 = .ok (.lcmp, 1) := by decide +kernel
theorem d269_5 : decode prog_14_method_71_code 5 = .ok (.ifCond .ne 6, 3) := by decide +kernel
theorem d269_8 : decode prog_14_method_71_code 8 = .ok (.bipush 100, 2) := by decide +kernel
theorem d269_10 : decode prog_14_method_71_code 10 = .ok (.ireturn, 1) := by decide +kernel
theorem d269_11 : decode prog_14_method_71_code 11 = .ok (.lload_n 0, 1) := by decide +kernel
theorem d269_12 : decode prog_14_method_71_code 12 = .ok (.ldc2_w 476, 3) := by decide +kernel
theorem d269_15 : decode prog_14_method_71_code 15 = .ok (.lcmp, 1) := by decide +kernel
theorem d269_16 : decode prog_14_method_71_code 16 = .ok (.ifCond .ne 6, 3) := by decide +kernel
theorem d269_19 : decode prog_14_method_71_code 19 = .ok (.bipush 101, 2) := by decide +kernel
theorem d269_21 : decode prog_14_method_71_code 21 = .ok (.ireturn, 1) := by decide +kernel
theorem d269_22 : decode prog_14_method_71_code 22 = .ok (.lload_n 0, 1) := by decide +kernel
theorem d269_23 : decode prog_14_method_71_code 23 = .ok (.ldc2_w 478, 3) := by decide +kernel
theorem d269_26 : decode prog_14_method_71_code 26 = .ok (.lcmp, 1) := by decide +kernel
theorem d269_27 : decode prog_14_method_71_code 27 = .ok (.ifCond .ne 6, 3) := by decide +kernel
theorem d269_30 : decode prog_14_method_71_code 30 = .ok (.bipush 102, 2) := by decide +kernel
theorem d269_32 : decode prog_14_method_71_code 32 = .ok (.ireturn, 1) := by decide +kernel
theorem d269_33 : decode prog_14_method_71_code 33 = .ok (.lload_n 0, 1) := by decide +kernel
theorem d269_34 : decode prog_14_method_71_code 34 = .ok (.ldc2_w 480, 3) := by decide +kernel
theorem d269_37 : decode prog_14_method_71_code 37 = .ok (.lcmp, 1) := by decide +kernel
theorem d269_38 : decode prog_14_method_71_code 38 = .ok (.ifCond .ne 6, 3) := by decide +kernel
theorem d269_41 : decode prog_14_method_71_code 41 = .ok (.bipush 103, 2) := by decide +kernel
theorem d269_43 : decode prog_14_method_71_code 43 = .ok (.ireturn, 1) := by decide +kernel
theorem d269_44 : decode prog_14_method_71_code 44 = .ok (.lload_n 0, 1) := by decide +kernel
theorem d269_45 : decode prog_14_method_71_code 45 = .ok (.ldc2_w 482, 3) := by decide +kernel
theorem d269_48 : decode prog_14_method_71_code 48 = .ok (.lcmp, 1) := by decide +kernel
theorem d269_49 : decode prog_14_method_71_code 49 = .ok (.ifCond .ne 6, 3) := by decide +kernel
theorem d269_52 : decode prog_14_method_71_code 52 = .ok (.bipush 104, 2) := by decide +kernel
theorem d269_54 : decode prog_14_method_71_code 54 = .ok (.ireturn, 1) := by decide +kernel
theorem d269_55 : decode prog_14_method_71_code 55 = .ok (.lload_n 0, 1) := by decide +kernel
theorem d269_56 : decode prog_14_method_71_code 56 = .ok (.ldc2_w 484, 3) := by decide +kernel
theorem d269_59 : decode prog_14_method_71_code 59 = .ok (.lcmp, 1) := by decide +kernel
theorem d269_60 : decode prog_14_method_71_code 60 = .ok (.ifCond .ne 6, 3) := by decide +kernel
theorem d269_63 : decode prog_14_method_71_code 63 = .ok (.bipush 105, 2) := by decide +kernel
theorem d269_65 : decode prog_14_method_71_code 65 = .ok (.ireturn, 1) := by decide +kernel
theorem d269_66 : decode prog_14_method_71_code 66 = .ok (.lload_n 0, 1) := by decide +kernel
theorem d269_67 : decode prog_14_method_71_code 67 = .ok (.ldc2_w 486, 3) := by decide +kernel
theorem d269_70 : decode prog_14_method_71_code 70 = .ok (.lcmp, 1) := by decide +kernel
theorem d269_71 : decode prog_14_method_71_code 71 = .ok (.ifCond .ne 6, 3) := by decide +kernel
theorem d269_74 : decode prog_14_method_71_code 74 = .ok (.bipush 106, 2) := by decide +kernel
theorem d269_76 : decode prog_14_method_71_code 76 = .ok (.ireturn, 1) := by decide +kernel
theorem d269_77 : decode prog_14_method_71_code 77 = .ok (.lload_n 0, 1) := by decide +kernel
theorem d269_78 : decode prog_14_method_71_code 78 = .ok (.ldc2_w 488, 3) := by decide +kernel
theorem d269_81 : decode prog_14_method_71_code 81 = .ok (.lcmp, 1) := by decide +kernel
theorem d269_82 : decode prog_14_method_71_code 82 = .ok (.ifCond .ne 6, 3) := by decide +kernel
theorem d269_85 : decode prog_14_method_71_code 85 = .ok (.bipush 107, 2) := by decide +kernel
theorem d269_87 : decode prog_14_method_71_code 87 = .ok (.ireturn, 1) := by decide +kernel
theorem d269_88 : decode prog_14_method_71_code 88 = .ok (.lload_n 0, 1) := by decide +kernel
theorem d269_89 : decode prog_14_method_71_code 89 = .ok (.ldc2_w 490, 3) := by decide +kernel
theorem d269_92 : decode prog_14_method_71_code 92 = .ok (.lcmp, 1) := by decide +kernel
theorem d269_93 : decode prog_14_method_71_code 93 = .ok (.ifCond .ne 6, 3) := by decide +kernel
theorem d269_96 : decode prog_14_method_71_code 96 = .ok (.bipush 108, 2) := by decide +kernel
theorem d269_98 : decode prog_14_method_71_code 98 = .ok (.ireturn, 1) := by decide +kernel
theorem d269_99 : decode prog_14_method_71_code 99 = .ok (.lload_n 0, 1) := by decide +kernel
theorem d269_100 : decode prog_14_method_71_code 100 = .ok (.ldc2_w 492, 3) := by decide +kernel
theorem d269_103 : decode prog_14_method_71_code 103 = .ok (.lcmp, 1) := by decide +kernel
theorem d269_104 : decode prog_14_method_71_code 104 = .ok (.ifCond .ne 8, 3) := by decide +kernel
theorem d269_107 : decode prog_14_method_71_code 107 = .ok (.bipush 109, 2) := by decide +kernel
theorem d269_109 : decode prog_14_method_71_code 109 = .ok (.goto 4, 3) := by decide +kernel
theorem d269_112 : decode prog_14_method_71_code 112 = .ok (.iconst (-1), 1) := by decide +kernel
theorem d269_113 : decode prog_14_method_71_code 113 = .ok (.ireturn, 1) := by decide +kernel
theorem m269 : pm_m 269 = some (⟨"TypeRulesModel", "functionOf", "(J)I"⟩, prog_14_method_71_code, 2, (some FieldType.int), 10, 1, 0) := rfl
theorem d295_0 : decode prog_14_method_73_code 0 = .ok (.iload_n 0, 1) := by decide +kernel
theorem d295_1 : decode prog_14_method_73_code 1 = .ok (.sipush 10103, 3) := by decide +kernel
theorem d295_4 : decode prog_14_method_73_code 4 = .ok (.if_icmp .ge 7, 3) := by decide +kernel
theorem d295_7 : decode prog_14_method_73_code 7 = .ok (.iconst 1, 1) := by decide +kernel
theorem d295_8 : decode prog_14_method_73_code 8 = .ok (.goto 4, 3) := by decide +kernel
theorem d295_11 : decode prog_14_method_73_code 11 = .ok (.iconst 0, 1) := by decide +kernel
theorem d295_12 : decode prog_14_method_73_code 12 = .ok (.istore_n 3, 1) := by decide +kernel
theorem d295_13 : decode prog_14_method_73_code 13 = .ok (.iload_n 0, 1) := by decide +kernel
theorem d295_14 : decode prog_14_method_73_code 14 = .ok (.sipush 10103, 3) := by decide +kernel
theorem d295_17 : decode prog_14_method_73_code 17 = .ok (.if_icmp .eq 10, 3) := by decide +kernel
theorem d295_20 : decode prog_14_method_73_code 20 = .ok (.iload_n 0, 1) := by decide +kernel
theorem d295_21 : decode prog_14_method_73_code 21 = .ok (.sipush 10104, 3) := by decide +kernel
theorem d295_24 : decode prog_14_method_73_code 24 = .ok (.if_icmp .ne 7, 3) := by decide +kernel
theorem d295_27 : decode prog_14_method_73_code 27 = .ok (.iconst 1, 1) := by decide +kernel
theorem d295_28 : decode prog_14_method_73_code 28 = .ok (.goto 4, 3) := by decide +kernel
theorem d295_31 : decode prog_14_method_73_code 31 = .ok (.iconst 0, 1) := by decide +kernel
theorem d295_32 : decode prog_14_method_73_code 32 = .ok (.istore 4, 2) := by decide +kernel
theorem d295_34 : decode prog_14_method_73_code 34 = .ok (.iload_n 3, 1) := by decide +kernel
theorem d295_35 : decode prog_14_method_73_code 35 = .ok (.ifCond .eq 56, 3) := by decide +kernel
theorem d295_38 : decode prog_14_method_73_code 38 = .ok (.lload_n 1, 1) := by decide +kernel
theorem d295_39 : decode prog_14_method_73_code 39 = .ok (.ldc2_w 512, 3) := by decide +kernel
theorem d295_42 : decode prog_14_method_73_code 42 = .ok (.lcmp, 1) := by decide +kernel
theorem d295_43 : decode prog_14_method_73_code 43 = .ok (.ifCond .ne 8, 3) := by decide +kernel
theorem d295_46 : decode prog_14_method_73_code 46 = .ok (.bipush 100, 2) := by decide +kernel
theorem d295_48 : decode prog_14_method_73_code 48 = .ok (.goto 42, 3) := by decide +kernel
theorem d295_51 : decode prog_14_method_73_code 51 = .ok (.lload_n 1, 1) := by decide +kernel
theorem d295_52 : decode prog_14_method_73_code 52 = .ok (.ldc2_w 514, 3) := by decide +kernel
theorem d295_55 : decode prog_14_method_73_code 55 = .ok (.lcmp, 1) := by decide +kernel
theorem d295_56 : decode prog_14_method_73_code 56 = .ok (.ifCond .ne 8, 3) := by decide +kernel
theorem d295_59 : decode prog_14_method_73_code 59 = .ok (.bipush 121, 2) := by decide +kernel
theorem d295_61 : decode prog_14_method_73_code 61 = .ok (.goto 29, 3) := by decide +kernel
theorem d295_64 : decode prog_14_method_73_code 64 = .ok (.lload_n 1, 1) := by decide +kernel
theorem d295_65 : decode prog_14_method_73_code 65 = .ok (.ldc2_w 516, 3) := by decide +kernel
theorem d295_68 : decode prog_14_method_73_code 68 = .ok (.lcmp, 1) := by decide +kernel
theorem d295_69 : decode prog_14_method_73_code 69 = .ok (.ifCond .ne 7, 3) := by decide +kernel
theorem d295_72 : decode prog_14_method_73_code 72 = .ok (.iconst 2, 1) := by decide +kernel
theorem d295_73 : decode prog_14_method_73_code 73 = .ok (.goto 17, 3) := by decide +kernel
theorem d295_76 : decode prog_14_method_73_code 76 = .ok (.lload_n 1, 1) := by decide +kernel
theorem d295_77 : decode prog_14_method_73_code 77 = .ok (.ldc2_w 518, 3) := by decide +kernel
theorem d295_80 : decode prog_14_method_73_code 80 = .ok (.lcmp, 1) := by decide +kernel
theorem d295_81 : decode prog_14_method_73_code 81 = .ok (.ifCond .ne 8, 3) := by decide +kernel
theorem d295_84 : decode prog_14_method_73_code 84 = .ok (.bipush 23, 2) := by decide +kernel
theorem d295_86 : decode prog_14_method_73_code 86 = .ok (.goto 4, 3) := by decide +kernel
theorem d295_89 : decode prog_14_method_73_code 89 = .ok (.iconst (-1), 1) := by decide +kernel
theorem d295_90 : decode prog_14_method_73_code 90 = .ok (.ireturn, 1) := by decide +kernel
theorem d295_91 : decode prog_14_method_73_code 91 = .ok (.iload 4, 2) := by decide +kernel
theorem d295_93 : decode prog_14_method_73_code 93 = .ok (.ifCond .eq 105, 3) := by decide +kernel
theorem d295_96 : decode prog_14_method_73_code 96 = .ok (.iload_n 0, 1) := by decide +kernel
theorem d295_97 : decode prog_14_method_73_code 97 = .ok (.sipush 10103, 3) := by decide +kernel
theorem d295_100 : decode prog_14_method_73_code 100 = .ok (.if_icmp .ne 7, 3) := by decide +kernel
theorem d295_103 : decode prog_14_method_73_code 103 = .ok (.iconst 1, 1) := by decide +kernel
theorem d295_104 : decode prog_14_method_73_code 104 = .ok (.goto 4, 3) := by decide +kernel
theorem d295_107 : decode prog_14_method_73_code 107 = .ok (.iconst 0, 1) := by decide +kernel
theorem d295_108 : decode prog_14_method_73_code 108 = .ok (.istore 5, 2) := by decide +kernel
theorem d295_110 : decode prog_14_method_73_code 110 = .ok (.lload_n 1, 1) := by decide +kernel
theorem d295_111 : decode prog_14_method_73_code 111 = .ok (.iload 5, 2) := by decide +kernel
theorem d295_113 : decode prog_14_method_73_code 113 = .ok (.ifCond .eq 9, 3) := by decide +kernel
theorem d295_116 : decode prog_14_method_73_code 116 = .ok (.ldc2_w 520, 3) := by decide +kernel
theorem d295_119 : decode prog_14_method_73_code 119 = .ok (.goto 6, 3) := by decide +kernel
theorem d295_122 : decode prog_14_method_73_code 122 = .ok (.ldc2_w 522, 3) := by decide +kernel
theorem d295_125 : decode prog_14_method_73_code 125 = .ok (.lcmp, 1) := by decide +kernel
theorem d295_126 : decode prog_14_method_73_code 126 = .ok (.ifCond .ne 8, 3) := by decide +kernel
theorem d295_129 : decode prog_14_method_73_code 129 = .ok (.bipush 100, 2) := by decide +kernel
theorem d295_131 : decode prog_14_method_73_code 131 = .ok (.goto 66, 3) := by decide +kernel
theorem d295_134 : decode prog_14_method_73_code 134 = .ok (.lload_n 1, 1) := by decide +kernel
theorem d295_135 : decode prog_14_method_73_code 135 = .ok (.iload 5, 2) := by decide +kernel
theorem d295_137 : decode prog_14_method_73_code 137 = .ok (.ifCond .eq 9, 3) := by decide +kernel
theorem d295_140 : decode prog_14_method_73_code 140 = .ok (.ldc2_w 524, 3) := by decide +kernel
theorem d295_143 : decode prog_14_method_73_code 143 = .ok (.goto 6, 3) := by decide +kernel
theorem d295_146 : decode prog_14_method_73_code 146 = .ok (.ldc2_w 526, 3) := by decide +kernel
theorem d295_149 : decode prog_14_method_73_code 149 = .ok (.lcmp, 1) := by decide +kernel
theorem d295_150 : decode prog_14_method_73_code 150 = .ok (.ifCond .ne 8, 3) := by decide +kernel
theorem d295_153 : decode prog_14_method_73_code 153 = .ok (.bipush 101, 2) := by decide +kernel
theorem d295_155 : decode prog_14_method_73_code 155 = .ok (.goto 42, 3) := by decide +kernel
theorem d295_158 : decode prog_14_method_73_code 158 = .ok (.lload_n 1, 1) := by decide +kernel
theorem d295_159 : decode prog_14_method_73_code 159 = .ok (.ldc2_w 528, 3) := by decide +kernel
theorem d295_162 : decode prog_14_method_73_code 162 = .ok (.lcmp, 1) := by decide +kernel
theorem d295_163 : decode prog_14_method_73_code 163 = .ok (.ifCond .ne 8, 3) := by decide +kernel
theorem d295_166 : decode prog_14_method_73_code 166 = .ok (.bipush 112, 2) := by decide +kernel
theorem d295_168 : decode prog_14_method_73_code 168 = .ok (.goto 29, 3) := by decide +kernel
theorem d295_171 : decode prog_14_method_73_code 171 = .ok (.lload_n 1, 1) := by decide +kernel
theorem d295_172 : decode prog_14_method_73_code 172 = .ok (.ldc2_w 516, 3) := by decide +kernel
theorem d295_175 : decode prog_14_method_73_code 175 = .ok (.lcmp, 1) := by decide +kernel
theorem d295_176 : decode prog_14_method_73_code 176 = .ok (.ifCond .ne 7, 3) := by decide +kernel
theorem d295_179 : decode prog_14_method_73_code 179 = .ok (.iconst 3, 1) := by decide +kernel
theorem d295_180 : decode prog_14_method_73_code 180 = .ok (.goto 17, 3) := by decide +kernel
theorem d295_183 : decode prog_14_method_73_code 183 = .ok (.lload_n 1, 1) := by decide +kernel
theorem d295_184 : decode prog_14_method_73_code 184 = .ok (.ldc2_w 530, 3) := by decide +kernel
theorem d295_187 : decode prog_14_method_73_code 187 = .ok (.lcmp, 1) := by decide +kernel
theorem d295_188 : decode prog_14_method_73_code 188 = .ok (.ifCond .ne 8, 3) := by decide +kernel
theorem d295_191 : decode prog_14_method_73_code 191 = .ok (.bipush 14, 2) := by decide +kernel
theorem d295_193 : decode prog_14_method_73_code 193 = .ok (.goto 4, 3) := by decide +kernel
theorem d295_196 : decode prog_14_method_73_code 196 = .ok (.iconst (-1), 1) := by decide +kernel
theorem d295_197 : decode prog_14_method_73_code 197 = .ok (.ireturn, 1) := by decide +kernel
theorem d295_198 : decode prog_14_method_73_code 198 = .ok (.iload_n 0, 1) := by decide +kernel
theorem d295_199 : decode prog_14_method_73_code 199 = .ok (.sipush 10107, 3) := by decide +kernel
theorem d295_202 : decode prog_14_method_73_code 202 = .ok (.if_icmp .ge 30, 3) := by decide +kernel
theorem d295_205 : decode prog_14_method_73_code 205 = .ok (.lload_n 1, 1) := by decide +kernel
theorem d295_206 : decode prog_14_method_73_code 206 = .ok (.ldc2_w 532, 3) := by decide +kernel
theorem d295_209 : decode prog_14_method_73_code 209 = .ok (.lcmp, 1) := by decide +kernel
theorem d295_210 : decode prog_14_method_73_code 210 = .ok (.ifCond .ne 8, 3) := by decide +kernel
theorem d295_213 : decode prog_14_method_73_code 213 = .ok (.bipush 100, 2) := by decide +kernel
theorem d295_215 : decode prog_14_method_73_code 215 = .ok (.goto 16, 3) := by decide +kernel
theorem d295_218 : decode prog_14_method_73_code 218 = .ok (.lload_n 1, 1) := by decide +kernel
theorem d295_219 : decode prog_14_method_73_code 219 = .ok (.ldc2_w 516, 3) := by decide +kernel
theorem d295_222 : decode prog_14_method_73_code 222 = .ok (.lcmp, 1) := by decide +kernel
theorem d295_223 : decode prog_14_method_73_code 223 = .ok (.ifCond .ne 7, 3) := by decide +kernel
theorem d295_226 : decode prog_14_method_73_code 226 = .ok (.iconst 1, 1) := by decide +kernel
theorem d295_227 : decode prog_14_method_73_code 227 = .ok (.goto 4, 3) := by decide +kernel
theorem d295_230 : decode prog_14_method_73_code 230 = .ok (.iconst (-1), 1) := by decide +kernel
theorem d295_231 : decode prog_14_method_73_code 231 = .ok (.ireturn, 1) := by decide +kernel
theorem d295_232 : decode prog_14_method_73_code 232 = .ok (.iload_n 0, 1) := by decide +kernel
theorem d295_233 : decode prog_14_method_73_code 233 = .ok (.sipush 10107, 3) := by decide +kernel
theorem d295_236 : decode prog_14_method_73_code 236 = .ok (.if_icmp .ne 7, 3) := by decide +kernel
theorem d295_239 : decode prog_14_method_73_code 239 = .ok (.iconst 1, 1) := by decide +kernel
theorem d295_240 : decode prog_14_method_73_code 240 = .ok (.goto 4, 3) := by decide +kernel
theorem d295_243 : decode prog_14_method_73_code 243 = .ok (.iconst 0, 1) := by decide +kernel
theorem d295_244 : decode prog_14_method_73_code 244 = .ok (.istore 5, 2) := by decide +kernel
theorem d295_246 : decode prog_14_method_73_code 246 = .ok (.lload_n 1, 1) := by decide +kernel
theorem d295_247 : decode prog_14_method_73_code 247 = .ok (.iload 5, 2) := by decide +kernel
theorem d295_249 : decode prog_14_method_73_code 249 = .ok (.ifCond .eq 9, 3) := by decide +kernel
theorem d295_252 : decode prog_14_method_73_code 252 = .ok (.ldc2_w 534, 3) := by decide +kernel
theorem d295_255 : decode prog_14_method_73_code 255 = .ok (.goto 6, 3) := by decide +kernel
theorem d295_258 : decode prog_14_method_73_code 258 = .ok (.ldc2_w 536, 3) := by decide +kernel
theorem d295_261 : decode prog_14_method_73_code 261 = .ok (.lcmp, 1) := by decide +kernel
theorem d295_262 : decode prog_14_method_73_code 262 = .ok (.ifCond .ne 8, 3) := by decide +kernel
theorem d295_265 : decode prog_14_method_73_code 265 = .ok (.bipush 100, 2) := by decide +kernel
theorem d295_267 : decode prog_14_method_73_code 267 = .ok (.goto 40, 3) := by decide +kernel
theorem d295_270 : decode prog_14_method_73_code 270 = .ok (.lload_n 1, 1) := by decide +kernel
theorem d295_271 : decode prog_14_method_73_code 271 = .ok (.iload 5, 2) := by decide +kernel
theorem d295_273 : decode prog_14_method_73_code 273 = .ok (.ifCond .eq 9, 3) := by decide +kernel
theorem d295_276 : decode prog_14_method_73_code 276 = .ok (.ldc2_w 524, 3) := by decide +kernel
theorem d295_279 : decode prog_14_method_73_code 279 = .ok (.goto 6, 3) := by decide +kernel
theorem d295_282 : decode prog_14_method_73_code 282 = .ok (.ldc2_w 538, 3) := by decide +kernel
theorem d295_285 : decode prog_14_method_73_code 285 = .ok (.lcmp, 1) := by decide +kernel
theorem d295_286 : decode prog_14_method_73_code 286 = .ok (.ifCond .ne 8, 3) := by decide +kernel
theorem d295_289 : decode prog_14_method_73_code 289 = .ok (.bipush 101, 2) := by decide +kernel
theorem d295_291 : decode prog_14_method_73_code 291 = .ok (.goto 16, 3) := by decide +kernel
theorem d295_294 : decode prog_14_method_73_code 294 = .ok (.lload_n 1, 1) := by decide +kernel
theorem d295_295 : decode prog_14_method_73_code 295 = .ok (.ldc2_w 540, 3) := by decide +kernel
theorem d295_298 : decode prog_14_method_73_code 298 = .ok (.lcmp, 1) := by decide +kernel
theorem d295_299 : decode prog_14_method_73_code 299 = .ok (.ifCond .ne 7, 3) := by decide +kernel
theorem d295_302 : decode prog_14_method_73_code 302 = .ok (.iconst 2, 1) := by decide +kernel
theorem d295_303 : decode prog_14_method_73_code 303 = .ok (.goto 4, 3) := by decide +kernel
theorem d295_306 : decode prog_14_method_73_code 306 = .ok (.iconst (-1), 1) := by decide +kernel
theorem d295_307 : decode prog_14_method_73_code 307 = .ok (.ireturn, 1) := by decide +kernel
theorem m295 : pm_m 295 = some (⟨"TypeRulesModel", "pin", "(IJ)I"⟩, prog_14_method_73_code, 6, (some FieldType.int), 10, 2, 0) := rfl
/-! the names that stand in the rules, and their codes -/
def nq_ks : List Int64 := [5525326, 5525318, 21584, 4412501, 4412484, 90569390049607, 77375250516295, 21330, 21075, 4276819, 5065038, 5063000, 327647316308, 5457228, 5457996, 5458002, 92699877789268, 23731168629837396, 23731168596676428, 18766, 20564, 81, 17748, 17237, 82, 20566, 17238, 17220, 19524, 4410443, 21297, 20785, 83, 21041]
theorem nq_kc : ∀ k, k < 75 → 41 ≤ k → rx_cd (lx_ns.getD k []) = nq_ks.getD (k - 41) 0 ∧ (lx_ns.getD k []).length ≤ 8 ∧ (lx_ns.getD k []) ≠ [] ∧ ∀ x ∈ lx_ns.getD k [], 1 ≤ x ∧ x < 256 := by unfold lx_ns; decide +kernel
theorem rx_pkl : ∀ (l : List Nat), (∀ x ∈ l, x < 256) → rx_pk l < 256 ^ l.length := by
  intro l
  generalize hn : l.length = n
  induction n generalizing l with
  | zero =>
    intro _
    rw [List.eq_nil_of_length_eq_zero hn]
    decide
  | succ n ih =>
    intro h
    obtain ⟨l', a, rfl⟩ := rx_snoc (l := l) (fun z => by rw [z] at hn; cases hn)
    rw [List.length_append, List.length_singleton] at hn
    have h1 := ih l' (by omega) (fun x hx => h x (List.mem_append_left _ hx))
    have h2 := h a (List.mem_append_right _ (List.mem_singleton.mpr rfl))
    rw [rx_pk_s, Nat.pow_succ]
    omega
/-- a short word's code is its own -/
theorem nq_ci {w u : List Nat} (hw : ∀ x ∈ w, 1 ≤ x ∧ x < 256) (hu : ∀ x ∈ u, 1 ≤ x ∧ x < 256) (lu : u.length ≤ 8) (nu : u ≠ []) : rx_cd w = rx_cd u ↔ w = u := by
  constructor
  · intro e
    unfold rx_cd at e
    rw [if_neg (show ¬ 8 < u.length by omega)] at e
    have bd : ∀ (v : List Nat), (∀ x ∈ v, 1 ≤ x ∧ x < 256) → rx_c1 v < 2 ^ 64 := fun v hv => by
      have h1 := rx_pkl (v.take 8) (fun x hx => (hv x (List.mem_of_mem_take hx)).2)
      have h2 : 256 ^ (v.take 8).length ≤ 256 ^ 8 := Nat.pow_le_pow_right (by decide) (by rw [List.length_take]; omega)
      unfold rx_c1
      have h3 : (256 : Nat) ^ 8 = 2 ^ 64 := by decide
      omega
    by_cases q : 8 < w.length
    · rw [if_pos q] at e
      exfalso
      have e2 : lN 0 = lN (rx_c1 u) := e
      have e3 := lN_inj (by decide) (bd u hu) e2
      have e4 : rx_pk (u.take 8) = rx_pk [] := e3.symm
      have e5 := rx_pk_inj _ _ _ rfl (fun x hx => hu x (List.mem_of_mem_take hx)) (fun x hx => absurd hx List.not_mem_nil) e4
      rw [List.take_of_length_le lu] at e5
      exact nu e5
    · rw [if_neg q] at e
      have e3 := lN_inj (bd w hw) (bd u hu) e
      have e5 := rx_pk_inj _ _ _ rfl (fun x hx => hw x (List.mem_of_mem_take hx)) (fun x hx => hu x (List.mem_of_mem_take hx)) e3
      rw [List.take_of_length_le lu, List.take_of_length_le (by omega)] at e5
      exact e5
  · intro e; rw [e]
/-- a name of the text against the fixed ones -/
theorem nq_fx {t : Nat → Nat} {M n j : Nat} (hN : rp_n t M n) (ht : ∀ i, t i < 256) (hj : j < n) (h : lx_k t M lx_ns j = 41) {k : Nat} (hk : k < 75) (hk' : 41 ≤ k) : rx_cd (rq_w t M j) = nq_ks.getD (k - 41) 0 ↔ lx_v t M lx_ns j = k := by
  obtain ⟨c1, c2, c3, c4⟩ := nq_kc k hk hk'
  have hb := nq_b hN hj h
  have hb0 : lx_b t M j := fun i hi => hb i (by omega)
  obtain ⟨g1, g2, g3, g4, g5⟩ := rq_41 hN.1 hb0 (by omega)
  have hw : ∀ x ∈ rq_w t M j, 1 ≤ x ∧ x < 256 := by
    unfold rq_w
    rw [g4]
    exact nt_w_1 ht
  rw [← c1, nq_ci hw c4 c2 c3]
  have w1 := (nq_w hN.1 hb0 h).1
  have J := (lx_at_J hN.1 (j + 1) hb).1
  have tk : (lx_at t M lx_ns (j + 1)).2[k]? = some (lx_ns.getD k []) := by
    refine nq_get J.2.2.2.2 ?_
    show lx_ns[k]? = _
    have hl : lx_ns.length = 75 := nl_N_len.1
    rw [List.getD_eq_getElem?_getD, List.getElem?_eq_getElem (by omega)]
    rfl
  constructor
  · intro e
    rw [e] at w1
    have l3 : lx_v t M lx_ns j < (lx_at t M lx_ns (j + 1)).2.length := by
      rcases Nat.lt_or_ge (lx_v t M lx_ns j) (lx_at t M lx_ns (j + 1)).2.length with y | y
      · exact y
      · rw [List.getElem?_eq_none y] at w1; cases w1
    exact (List.getElem?_inj l3 J.1).mp (w1.trans tk.symm)
  · intro e
    rw [e, tk] at w1
    exact (Option.some.inj w1).symm
/-- what a code says of a number -/
def nq_x (x : Int64) (v : Nat) : Prop := ∀ k, k < 75 → 41 ≤ k → (x = nq_ks.getD (k - 41) 0 ↔ v = k)
theorem lc_z (x y : Int64) : lg_cmp x y = 0 ↔ x = y := by
  rw [lc_eq]
  exact ⟨fun e => Int64.toInt_inj.mp e, fun e => by rw [e]⟩
theorem sp269 {d : Nat} {σ : pm_S} {Q : Option Value → pm_S → Prop} {x : Int64} {v : Nat} (hx : nq_x x v) (hQ : Q (some (.int (if 50 ≤ v ∧ v < 60 then nI (v + 50) else -1))) σ) : pm_call pm_Y0 (d + 1) 269 [.long x] σ Q := by
  refine wq_m m269 (Nat.le_of_ble_eq_true rfl) (by decide) rfl ?_
  refine wq_l 1 d269_0 rfl rfl rfl rfl ?_
  refine wq_cl 4 d269_1 rfl rfl ?_
  refine wq_a 5 d269_4 rfl rfl ?_
  refine wq_b 11 8 d269_5 rfl (by decide) rfl (fun c5 => ?_) (fun c5 => ?_)
  · -- pc 11
    have f5 : ¬ v = 50 := by have y := c5; rw [lc_z] at y; exact fun q => y ((hx 50 (by decide) (by decide)).mpr q)
    refine wq_l 12 d269_11 rfl rfl rfl rfl ?_
    refine wq_cl 15 d269_12 rfl rfl ?_
    refine wq_a 16 d269_15 rfl rfl ?_
    refine wq_b 22 19 d269_16 rfl (by decide) rfl (fun c16 => ?_) (fun c16 => ?_)
    · -- pc 22
      have f16 : ¬ v = 51 := by have y := c16; rw [lc_z] at y; exact fun q => y ((hx 51 (by decide) (by decide)).mpr q)
      refine wq_l 23 d269_22 rfl rfl rfl rfl ?_
      refine wq_cl 26 d269_23 rfl rfl ?_
      refine wq_a 27 d269_26 rfl rfl ?_
      refine wq_b 33 30 d269_27 rfl (by decide) rfl (fun c27 => ?_) (fun c27 => ?_)
      · -- pc 33
        have f27 : ¬ v = 52 := by have y := c27; rw [lc_z] at y; exact fun q => y ((hx 52 (by decide) (by decide)).mpr q)
        refine wq_l 34 d269_33 rfl rfl rfl rfl ?_
        refine wq_cl 37 d269_34 rfl rfl ?_
        refine wq_a 38 d269_37 rfl rfl ?_
        refine wq_b 44 41 d269_38 rfl (by decide) rfl (fun c38 => ?_) (fun c38 => ?_)
        · -- pc 44
          have f38 : ¬ v = 53 := by have y := c38; rw [lc_z] at y; exact fun q => y ((hx 53 (by decide) (by decide)).mpr q)
          refine wq_l 45 d269_44 rfl rfl rfl rfl ?_
          refine wq_cl 48 d269_45 rfl rfl ?_
          refine wq_a 49 d269_48 rfl rfl ?_
          refine wq_b 55 52 d269_49 rfl (by decide) rfl (fun c49 => ?_) (fun c49 => ?_)
          · -- pc 55
            have f49 : ¬ v = 54 := by have y := c49; rw [lc_z] at y; exact fun q => y ((hx 54 (by decide) (by decide)).mpr q)
            refine wq_l 56 d269_55 rfl rfl rfl rfl ?_
            refine wq_cl 59 d269_56 rfl rfl ?_
            refine wq_a 60 d269_59 rfl rfl ?_
            refine wq_b 66 63 d269_60 rfl (by decide) rfl (fun c60 => ?_) (fun c60 => ?_)
            · -- pc 66
              have f60 : ¬ v = 55 := by have y := c60; rw [lc_z] at y; exact fun q => y ((hx 55 (by decide) (by decide)).mpr q)
              refine wq_l 67 d269_66 rfl rfl rfl rfl ?_
              refine wq_cl 70 d269_67 rfl rfl ?_
              refine wq_a 71 d269_70 rfl rfl ?_
              refine wq_b 77 74 d269_71 rfl (by decide) rfl (fun c71 => ?_) (fun c71 => ?_)
              · -- pc 77
                have f71 : ¬ v = 56 := by have y := c71; rw [lc_z] at y; exact fun q => y ((hx 56 (by decide) (by decide)).mpr q)
                refine wq_l 78 d269_77 rfl rfl rfl rfl ?_
                refine wq_cl 81 d269_78 rfl rfl ?_
                refine wq_a 82 d269_81 rfl rfl ?_
                refine wq_b 88 85 d269_82 rfl (by decide) rfl (fun c82 => ?_) (fun c82 => ?_)
                · -- pc 88
                  have f82 : ¬ v = 57 := by have y := c82; rw [lc_z] at y; exact fun q => y ((hx 57 (by decide) (by decide)).mpr q)
                  refine wq_l 89 d269_88 rfl rfl rfl rfl ?_
                  refine wq_cl 92 d269_89 rfl rfl ?_
                  refine wq_a 93 d269_92 rfl rfl ?_
                  refine wq_b 99 96 d269_93 rfl (by decide) rfl (fun c93 => ?_) (fun c93 => ?_)
                  · -- pc 99
                    have f93 : ¬ v = 58 := by have y := c93; rw [lc_z] at y; exact fun q => y ((hx 58 (by decide) (by decide)).mpr q)
                    refine wq_l 100 d269_99 rfl rfl rfl rfl ?_
                    refine wq_cl 103 d269_100 rfl rfl ?_
                    refine wq_a 104 d269_103 rfl rfl ?_
                    refine wq_b 112 107 d269_104 rfl (by decide) rfl (fun c104 => ?_) (fun c104 => ?_)
                    · -- pc 112
                      have f104 : ¬ v = 59 := by have y := c104; rw [lc_z] at y; exact fun q => y ((hx 59 (by decide) (by decide)).mpr q)
                      refine wq_k 113 (-1) d269_112 (by decide) rfl ?_
                      refine wq_ri d269_113 (rfl) ?_
                      first | (rw [if_neg (by omega)] at hQ; exact hQ) | (have fv : v = 50 := (by omega); rw [fv] at hQ; exact hQ) | (have fv : v = 51 := (by omega); rw [fv] at hQ; exact hQ) | (have fv : v = 52 := (by omega); rw [fv] at hQ; exact hQ) | (have fv : v = 53 := (by omega); rw [fv] at hQ; exact hQ) | (have fv : v = 54 := (by omega); rw [fv] at hQ; exact hQ) | (have fv : v = 55 := (by omega); rw [fv] at hQ; exact hQ) | (have fv : v = 56 := (by omega); rw [fv] at hQ; exact hQ) | (have fv : v = 57 := (by omega); rw [fv] at hQ; exact hQ) | (have fv : v = 58 := (by omega); rw [fv] at hQ; exact hQ) | (have fv : v = 59 := (by omega); rw [fv] at hQ; exact hQ)
                    · -- pc 107
                      have f104 : v = 59 := by have y := Classical.not_not.mp c104; rw [lc_z] at y; exact (hx 59 (by decide) (by decide)).mp y
                      refine wq_k 109 109 d269_107 (by decide) rfl ?_
                      refine wq_g 113 d269_109 (by decide) ?_
                      refine wq_ri d269_113 (rfl) ?_
                      first | (rw [if_neg (by omega)] at hQ; exact hQ) | (have fv : v = 50 := (by omega); rw [fv] at hQ; exact hQ) | (have fv : v = 51 := (by omega); rw [fv] at hQ; exact hQ) | (have fv : v = 52 := (by omega); rw [fv] at hQ; exact hQ) | (have fv : v = 53 := (by omega); rw [fv] at hQ; exact hQ) | (have fv : v = 54 := (by omega); rw [fv] at hQ; exact hQ) | (have fv : v = 55 := (by omega); rw [fv] at hQ; exact hQ) | (have fv : v = 56 := (by omega); rw [fv] at hQ; exact hQ) | (have fv : v = 57 := (by omega); rw [fv] at hQ; exact hQ) | (have fv : v = 58 := (by omega); rw [fv] at hQ; exact hQ) | (have fv : v = 59 := (by omega); rw [fv] at hQ; exact hQ)
                  · -- pc 96
                    have f93 : v = 58 := by have y := Classical.not_not.mp c93; rw [lc_z] at y; exact (hx 58 (by decide) (by decide)).mp y
                    refine wq_k 98 108 d269_96 (by decide) rfl ?_
                    refine wq_ri d269_98 (rfl) ?_
                    first | (rw [if_neg (by omega)] at hQ; exact hQ) | (have fv : v = 50 := (by omega); rw [fv] at hQ; exact hQ) | (have fv : v = 51 := (by omega); rw [fv] at hQ; exact hQ) | (have fv : v = 52 := (by omega); rw [fv] at hQ; exact hQ) | (have fv : v = 53 := (by omega); rw [fv] at hQ; exact hQ) | (have fv : v = 54 := (by omega); rw [fv] at hQ; exact hQ) | (have fv : v = 55 := (by omega); rw [fv] at hQ; exact hQ) | (have fv : v = 56 := (by omega); rw [fv] at hQ; exact hQ) | (have fv : v = 57 := (by omega); rw [fv] at hQ; exact hQ) | (have fv : v = 58 := (by omega); rw [fv] at hQ; exact hQ) | (have fv : v = 59 := (by omega); rw [fv] at hQ; exact hQ)
                · -- pc 85
                  have f82 : v = 57 := by have y := Classical.not_not.mp c82; rw [lc_z] at y; exact (hx 57 (by decide) (by decide)).mp y
                  refine wq_k 87 107 d269_85 (by decide) rfl ?_
                  refine wq_ri d269_87 (rfl) ?_
                  first | (rw [if_neg (by omega)] at hQ; exact hQ) | (have fv : v = 50 := (by omega); rw [fv] at hQ; exact hQ) | (have fv : v = 51 := (by omega); rw [fv] at hQ; exact hQ) | (have fv : v = 52 := (by omega); rw [fv] at hQ; exact hQ) | (have fv : v = 53 := (by omega); rw [fv] at hQ; exact hQ) | (have fv : v = 54 := (by omega); rw [fv] at hQ; exact hQ) | (have fv : v = 55 := (by omega); rw [fv] at hQ; exact hQ) | (have fv : v = 56 := (by omega); rw [fv] at hQ; exact hQ) | (have fv : v = 57 := (by omega); rw [fv] at hQ; exact hQ) | (have fv : v = 58 := (by omega); rw [fv] at hQ; exact hQ) | (have fv : v = 59 := (by omega); rw [fv] at hQ; exact hQ)
              · -- pc 74
                have f71 : v = 56 := by have y := Classical.not_not.mp c71; rw [lc_z] at y; exact (hx 56 (by decide) (by decide)).mp y
                refine wq_k 76 106 d269_74 (by decide) rfl ?_
                refine wq_ri d269_76 (rfl) ?_
                first | (rw [if_neg (by omega)] at hQ; exact hQ) | (have fv : v = 50 := (by omega); rw [fv] at hQ; exact hQ) | (have fv : v = 51 := (by omega); rw [fv] at hQ; exact hQ) | (have fv : v = 52 := (by omega); rw [fv] at hQ; exact hQ) | (have fv : v = 53 := (by omega); rw [fv] at hQ; exact hQ) | (have fv : v = 54 := (by omega); rw [fv] at hQ; exact hQ) | (have fv : v = 55 := (by omega); rw [fv] at hQ; exact hQ) | (have fv : v = 56 := (by omega); rw [fv] at hQ; exact hQ) | (have fv : v = 57 := (by omega); rw [fv] at hQ; exact hQ) | (have fv : v = 58 := (by omega); rw [fv] at hQ; exact hQ) | (have fv : v = 59 := (by omega); rw [fv] at hQ; exact hQ)
            · -- pc 63
              have f60 : v = 55 := by have y := Classical.not_not.mp c60; rw [lc_z] at y; exact (hx 55 (by decide) (by decide)).mp y
              refine wq_k 65 105 d269_63 (by decide) rfl ?_
              refine wq_ri d269_65 (rfl) ?_
              first | (rw [if_neg (by omega)] at hQ; exact hQ) | (have fv : v = 50 := (by omega); rw [fv] at hQ; exact hQ) | (have fv : v = 51 := (by omega); rw [fv] at hQ; exact hQ) | (have fv : v = 52 := (by omega); rw [fv] at hQ; exact hQ) | (have fv : v = 53 := (by omega); rw [fv] at hQ; exact hQ) | (have fv : v = 54 := (by omega); rw [fv] at hQ; exact hQ) | (have fv : v = 55 := (by omega); rw [fv] at hQ; exact hQ) | (have fv : v = 56 := (by omega); rw [fv] at hQ; exact hQ) | (have fv : v = 57 := (by omega); rw [fv] at hQ; exact hQ) | (have fv : v = 58 := (by omega); rw [fv] at hQ; exact hQ) | (have fv : v = 59 := (by omega); rw [fv] at hQ; exact hQ)
          · -- pc 52
            have f49 : v = 54 := by have y := Classical.not_not.mp c49; rw [lc_z] at y; exact (hx 54 (by decide) (by decide)).mp y
            refine wq_k 54 104 d269_52 (by decide) rfl ?_
            refine wq_ri d269_54 (rfl) ?_
            first | (rw [if_neg (by omega)] at hQ; exact hQ) | (have fv : v = 50 := (by omega); rw [fv] at hQ; exact hQ) | (have fv : v = 51 := (by omega); rw [fv] at hQ; exact hQ) | (have fv : v = 52 := (by omega); rw [fv] at hQ; exact hQ) | (have fv : v = 53 := (by omega); rw [fv] at hQ; exact hQ) | (have fv : v = 54 := (by omega); rw [fv] at hQ; exact hQ) | (have fv : v = 55 := (by omega); rw [fv] at hQ; exact hQ) | (have fv : v = 56 := (by omega); rw [fv] at hQ; exact hQ) | (have fv : v = 57 := (by omega); rw [fv] at hQ; exact hQ) | (have fv : v = 58 := (by omega); rw [fv] at hQ; exact hQ) | (have fv : v = 59 := (by omega); rw [fv] at hQ; exact hQ)
        · -- pc 41
          have f38 : v = 53 := by have y := Classical.not_not.mp c38; rw [lc_z] at y; exact (hx 53 (by decide) (by decide)).mp y
          refine wq_k 43 103 d269_41 (by decide) rfl ?_
          refine wq_ri d269_43 (rfl) ?_
          first | (rw [if_neg (by omega)] at hQ; exact hQ) | (have fv : v = 50 := (by omega); rw [fv] at hQ; exact hQ) | (have fv : v = 51 := (by omega); rw [fv] at hQ; exact hQ) | (have fv : v = 52 := (by omega); rw [fv] at hQ; exact hQ) | (have fv : v = 53 := (by omega); rw [fv] at hQ; exact hQ) | (have fv : v = 54 := (by omega); rw [fv] at hQ; exact hQ) | (have fv : v = 55 := (by omega); rw [fv] at hQ; exact hQ) | (have fv : v = 56 := (by omega); rw [fv] at hQ; exact hQ) | (have fv : v = 57 := (by omega); rw [fv] at hQ; exact hQ) | (have fv : v = 58 := (by omega); rw [fv] at hQ; exact hQ) | (have fv : v = 59 := (by omega); rw [fv] at hQ; exact hQ)
      · -- pc 30
        have f27 : v = 52 := by have y := Classical.not_not.mp c27; rw [lc_z] at y; exact (hx 52 (by decide) (by decide)).mp y
        refine wq_k 32 102 d269_30 (by decide) rfl ?_
        refine wq_ri d269_32 (rfl) ?_
        first | (rw [if_neg (by omega)] at hQ; exact hQ) | (have fv : v = 50 := (by omega); rw [fv] at hQ; exact hQ) | (have fv : v = 51 := (by omega); rw [fv] at hQ; exact hQ) | (have fv : v = 52 := (by omega); rw [fv] at hQ; exact hQ) | (have fv : v = 53 := (by omega); rw [fv] at hQ; exact hQ) | (have fv : v = 54 := (by omega); rw [fv] at hQ; exact hQ) | (have fv : v = 55 := (by omega); rw [fv] at hQ; exact hQ) | (have fv : v = 56 := (by omega); rw [fv] at hQ; exact hQ) | (have fv : v = 57 := (by omega); rw [fv] at hQ; exact hQ) | (have fv : v = 58 := (by omega); rw [fv] at hQ; exact hQ) | (have fv : v = 59 := (by omega); rw [fv] at hQ; exact hQ)
    · -- pc 19
      have f16 : v = 51 := by have y := Classical.not_not.mp c16; rw [lc_z] at y; exact (hx 51 (by decide) (by decide)).mp y
      refine wq_k 21 101 d269_19 (by decide) rfl ?_
      refine wq_ri d269_21 (rfl) ?_
      first | (rw [if_neg (by omega)] at hQ; exact hQ) | (have fv : v = 50 := (by omega); rw [fv] at hQ; exact hQ) | (have fv : v = 51 := (by omega); rw [fv] at hQ; exact hQ) | (have fv : v = 52 := (by omega); rw [fv] at hQ; exact hQ) | (have fv : v = 53 := (by omega); rw [fv] at hQ; exact hQ) | (have fv : v = 54 := (by omega); rw [fv] at hQ; exact hQ) | (have fv : v = 55 := (by omega); rw [fv] at hQ; exact hQ) | (have fv : v = 56 := (by omega); rw [fv] at hQ; exact hQ) | (have fv : v = 57 := (by omega); rw [fv] at hQ; exact hQ) | (have fv : v = 58 := (by omega); rw [fv] at hQ; exact hQ) | (have fv : v = 59 := (by omega); rw [fv] at hQ; exact hQ)
  · -- pc 8
    have f5 : v = 50 := by have y := Classical.not_not.mp c5; rw [lc_z] at y; exact (hx 50 (by decide) (by decide)).mp y
    refine wq_k 10 100 d269_8 (by decide) rfl ?_
    refine wq_ri d269_10 (rfl) ?_
    first | (rw [if_neg (by omega)] at hQ; exact hQ) | (have fv : v = 50 := (by omega); rw [fv] at hQ; exact hQ) | (have fv : v = 51 := (by omega); rw [fv] at hQ; exact hQ) | (have fv : v = 52 := (by omega); rw [fv] at hQ; exact hQ) | (have fv : v = 53 := (by omega); rw [fv] at hQ; exact hQ) | (have fv : v = 54 := (by omega); rw [fv] at hQ; exact hQ) | (have fv : v = 55 := (by omega); rw [fv] at hQ; exact hQ) | (have fv : v = 56 := (by omega); rw [fv] at hQ; exact hQ) | (have fv : v = 57 := (by omega); rw [fv] at hQ; exact hQ) | (have fv : v = 58 := (by omega); rw [fv] at hQ; exact hQ) | (have fv : v = 59 := (by omega); rw [fv] at hQ; exact hQ)
theorem sp268 {d : Nat} {σ : pm_S} {Q : Option Value → pm_S → Prop} {x : Int64} {v : Nat} (hx : nq_x x v) (hQ : Q (some (.int (if 41 ≤ v ∧ v < 50 then nI (v + 10059) else -1))) σ) : pm_call pm_Y0 (d + 1) 268 [.long x] σ Q := by
  refine wq_m m268 (Nat.le_of_ble_eq_true rfl) (by decide) rfl ?_
  refine wq_l 1 d268_0 rfl rfl rfl rfl ?_
  refine wq_cl 4 d268_1 rfl rfl ?_
  refine wq_a 5 d268_4 rfl rfl ?_
  refine wq_b 12 8 d268_5 rfl (by decide) rfl (fun c5 => ?_) (fun c5 => ?_)
  · -- pc 12
    have f5 : ¬ v = 41 := by have y := c5; rw [lc_z] at y; exact fun q => y ((hx 41 (by decide) (by decide)).mpr q)
    refine wq_l 13 d268_12 rfl rfl rfl rfl ?_
    refine wq_cl 16 d268_13 rfl rfl ?_
    refine wq_a 17 d268_16 rfl rfl ?_
    refine wq_b 24 20 d268_17 rfl (by decide) rfl (fun c17 => ?_) (fun c17 => ?_)
    · -- pc 24
      have f17 : ¬ v = 42 := by have y := c17; rw [lc_z] at y; exact fun q => y ((hx 42 (by decide) (by decide)).mpr q)
      refine wq_l 25 d268_24 rfl rfl rfl rfl ?_
      refine wq_cl 28 d268_25 rfl rfl ?_
      refine wq_a 29 d268_28 rfl rfl ?_
      refine wq_b 36 32 d268_29 rfl (by decide) rfl (fun c29 => ?_) (fun c29 => ?_)
      · -- pc 36
        have f29 : ¬ v = 43 := by have y := c29; rw [lc_z] at y; exact fun q => y ((hx 43 (by decide) (by decide)).mpr q)
        refine wq_l 37 d268_36 rfl rfl rfl rfl ?_
        refine wq_cl 40 d268_37 rfl rfl ?_
        refine wq_a 41 d268_40 rfl rfl ?_
        refine wq_b 48 44 d268_41 rfl (by decide) rfl (fun c41 => ?_) (fun c41 => ?_)
        · -- pc 48
          have f41 : ¬ v = 44 := by have y := c41; rw [lc_z] at y; exact fun q => y ((hx 44 (by decide) (by decide)).mpr q)
          refine wq_l 49 d268_48 rfl rfl rfl rfl ?_
          refine wq_cl 52 d268_49 rfl rfl ?_
          refine wq_a 53 d268_52 rfl rfl ?_
          refine wq_b 60 56 d268_53 rfl (by decide) rfl (fun c53 => ?_) (fun c53 => ?_)
          · -- pc 60
            have f53 : ¬ v = 45 := by have y := c53; rw [lc_z] at y; exact fun q => y ((hx 45 (by decide) (by decide)).mpr q)
            refine wq_l 61 d268_60 rfl rfl rfl rfl ?_
            refine wq_cl 64 d268_61 rfl rfl ?_
            refine wq_a 65 d268_64 rfl rfl ?_
            refine wq_b 72 68 d268_65 rfl (by decide) rfl (fun c65 => ?_) (fun c65 => ?_)
            · -- pc 72
              have f65 : ¬ v = 46 := by have y := c65; rw [lc_z] at y; exact fun q => y ((hx 46 (by decide) (by decide)).mpr q)
              refine wq_l 73 d268_72 rfl rfl rfl rfl ?_
              refine wq_cl 76 d268_73 rfl rfl ?_
              refine wq_a 77 d268_76 rfl rfl ?_
              refine wq_b 84 80 d268_77 rfl (by decide) rfl (fun c77 => ?_) (fun c77 => ?_)
              · -- pc 84
                have f77 : ¬ v = 47 := by have y := c77; rw [lc_z] at y; exact fun q => y ((hx 47 (by decide) (by decide)).mpr q)
                refine wq_l 85 d268_84 rfl rfl rfl rfl ?_
                refine wq_cl 88 d268_85 rfl rfl ?_
                refine wq_a 89 d268_88 rfl rfl ?_
                refine wq_b 96 92 d268_89 rfl (by decide) rfl (fun c89 => ?_) (fun c89 => ?_)
                · -- pc 96
                  have f89 : ¬ v = 48 := by have y := c89; rw [lc_z] at y; exact fun q => y ((hx 48 (by decide) (by decide)).mpr q)
                  refine wq_l 97 d268_96 rfl rfl rfl rfl ?_
                  refine wq_cl 100 d268_97 rfl rfl ?_
                  refine wq_a 101 d268_100 rfl rfl ?_
                  refine wq_b 110 104 d268_101 rfl (by decide) rfl (fun c101 => ?_) (fun c101 => ?_)
                  · -- pc 110
                    have f101 : ¬ v = 49 := by have y := c101; rw [lc_z] at y; exact fun q => y ((hx 49 (by decide) (by decide)).mpr q)
                    refine wq_k 111 (-1) d268_110 (by decide) rfl ?_
                    refine wq_ri d268_111 (rfl) ?_
                    first | (rw [if_neg (by omega)] at hQ; exact hQ) | (have fv : v = 41 := (by omega); rw [fv] at hQ; exact hQ) | (have fv : v = 42 := (by omega); rw [fv] at hQ; exact hQ) | (have fv : v = 43 := (by omega); rw [fv] at hQ; exact hQ) | (have fv : v = 44 := (by omega); rw [fv] at hQ; exact hQ) | (have fv : v = 45 := (by omega); rw [fv] at hQ; exact hQ) | (have fv : v = 46 := (by omega); rw [fv] at hQ; exact hQ) | (have fv : v = 47 := (by omega); rw [fv] at hQ; exact hQ) | (have fv : v = 48 := (by omega); rw [fv] at hQ; exact hQ) | (have fv : v = 49 := (by omega); rw [fv] at hQ; exact hQ)
                  · -- pc 104
                    have f101 : v = 49 := by have y := Classical.not_not.mp c101; rw [lc_z] at y; exact (hx 49 (by decide) (by decide)).mp y
                    refine wq_k 107 10108 d268_104 (by decide) rfl ?_
                    refine wq_g 111 d268_107 (by decide) ?_
                    refine wq_ri d268_111 (rfl) ?_
                    first | (rw [if_neg (by omega)] at hQ; exact hQ) | (have fv : v = 41 := (by omega); rw [fv] at hQ; exact hQ) | (have fv : v = 42 := (by omega); rw [fv] at hQ; exact hQ) | (have fv : v = 43 := (by omega); rw [fv] at hQ; exact hQ) | (have fv : v = 44 := (by omega); rw [fv] at hQ; exact hQ) | (have fv : v = 45 := (by omega); rw [fv] at hQ; exact hQ) | (have fv : v = 46 := (by omega); rw [fv] at hQ; exact hQ) | (have fv : v = 47 := (by omega); rw [fv] at hQ; exact hQ) | (have fv : v = 48 := (by omega); rw [fv] at hQ; exact hQ) | (have fv : v = 49 := (by omega); rw [fv] at hQ; exact hQ)
                · -- pc 92
                  have f89 : v = 48 := by have y := Classical.not_not.mp c89; rw [lc_z] at y; exact (hx 48 (by decide) (by decide)).mp y
                  refine wq_k 95 10107 d268_92 (by decide) rfl ?_
                  refine wq_ri d268_95 (rfl) ?_
                  first | (rw [if_neg (by omega)] at hQ; exact hQ) | (have fv : v = 41 := (by omega); rw [fv] at hQ; exact hQ) | (have fv : v = 42 := (by omega); rw [fv] at hQ; exact hQ) | (have fv : v = 43 := (by omega); rw [fv] at hQ; exact hQ) | (have fv : v = 44 := (by omega); rw [fv] at hQ; exact hQ) | (have fv : v = 45 := (by omega); rw [fv] at hQ; exact hQ) | (have fv : v = 46 := (by omega); rw [fv] at hQ; exact hQ) | (have fv : v = 47 := (by omega); rw [fv] at hQ; exact hQ) | (have fv : v = 48 := (by omega); rw [fv] at hQ; exact hQ) | (have fv : v = 49 := (by omega); rw [fv] at hQ; exact hQ)
              · -- pc 80
                have f77 : v = 47 := by have y := Classical.not_not.mp c77; rw [lc_z] at y; exact (hx 47 (by decide) (by decide)).mp y
                refine wq_k 83 10106 d268_80 (by decide) rfl ?_
                refine wq_ri d268_83 (rfl) ?_
                first | (rw [if_neg (by omega)] at hQ; exact hQ) | (have fv : v = 41 := (by omega); rw [fv] at hQ; exact hQ) | (have fv : v = 42 := (by omega); rw [fv] at hQ; exact hQ) | (have fv : v = 43 := (by omega); rw [fv] at hQ; exact hQ) | (have fv : v = 44 := (by omega); rw [fv] at hQ; exact hQ) | (have fv : v = 45 := (by omega); rw [fv] at hQ; exact hQ) | (have fv : v = 46 := (by omega); rw [fv] at hQ; exact hQ) | (have fv : v = 47 := (by omega); rw [fv] at hQ; exact hQ) | (have fv : v = 48 := (by omega); rw [fv] at hQ; exact hQ) | (have fv : v = 49 := (by omega); rw [fv] at hQ; exact hQ)
            · -- pc 68
              have f65 : v = 46 := by have y := Classical.not_not.mp c65; rw [lc_z] at y; exact (hx 46 (by decide) (by decide)).mp y
              refine wq_k 71 10105 d268_68 (by decide) rfl ?_
              refine wq_ri d268_71 (rfl) ?_
              first | (rw [if_neg (by omega)] at hQ; exact hQ) | (have fv : v = 41 := (by omega); rw [fv] at hQ; exact hQ) | (have fv : v = 42 := (by omega); rw [fv] at hQ; exact hQ) | (have fv : v = 43 := (by omega); rw [fv] at hQ; exact hQ) | (have fv : v = 44 := (by omega); rw [fv] at hQ; exact hQ) | (have fv : v = 45 := (by omega); rw [fv] at hQ; exact hQ) | (have fv : v = 46 := (by omega); rw [fv] at hQ; exact hQ) | (have fv : v = 47 := (by omega); rw [fv] at hQ; exact hQ) | (have fv : v = 48 := (by omega); rw [fv] at hQ; exact hQ) | (have fv : v = 49 := (by omega); rw [fv] at hQ; exact hQ)
          · -- pc 56
            have f53 : v = 45 := by have y := Classical.not_not.mp c53; rw [lc_z] at y; exact (hx 45 (by decide) (by decide)).mp y
            refine wq_k 59 10104 d268_56 (by decide) rfl ?_
            refine wq_ri d268_59 (rfl) ?_
            first | (rw [if_neg (by omega)] at hQ; exact hQ) | (have fv : v = 41 := (by omega); rw [fv] at hQ; exact hQ) | (have fv : v = 42 := (by omega); rw [fv] at hQ; exact hQ) | (have fv : v = 43 := (by omega); rw [fv] at hQ; exact hQ) | (have fv : v = 44 := (by omega); rw [fv] at hQ; exact hQ) | (have fv : v = 45 := (by omega); rw [fv] at hQ; exact hQ) | (have fv : v = 46 := (by omega); rw [fv] at hQ; exact hQ) | (have fv : v = 47 := (by omega); rw [fv] at hQ; exact hQ) | (have fv : v = 48 := (by omega); rw [fv] at hQ; exact hQ) | (have fv : v = 49 := (by omega); rw [fv] at hQ; exact hQ)
        · -- pc 44
          have f41 : v = 44 := by have y := Classical.not_not.mp c41; rw [lc_z] at y; exact (hx 44 (by decide) (by decide)).mp y
          refine wq_k 47 10103 d268_44 (by decide) rfl ?_
          refine wq_ri d268_47 (rfl) ?_
          first | (rw [if_neg (by omega)] at hQ; exact hQ) | (have fv : v = 41 := (by omega); rw [fv] at hQ; exact hQ) | (have fv : v = 42 := (by omega); rw [fv] at hQ; exact hQ) | (have fv : v = 43 := (by omega); rw [fv] at hQ; exact hQ) | (have fv : v = 44 := (by omega); rw [fv] at hQ; exact hQ) | (have fv : v = 45 := (by omega); rw [fv] at hQ; exact hQ) | (have fv : v = 46 := (by omega); rw [fv] at hQ; exact hQ) | (have fv : v = 47 := (by omega); rw [fv] at hQ; exact hQ) | (have fv : v = 48 := (by omega); rw [fv] at hQ; exact hQ) | (have fv : v = 49 := (by omega); rw [fv] at hQ; exact hQ)
      · -- pc 32
        have f29 : v = 43 := by have y := Classical.not_not.mp c29; rw [lc_z] at y; exact (hx 43 (by decide) (by decide)).mp y
        refine wq_k 35 10102 d268_32 (by decide) rfl ?_
        refine wq_ri d268_35 (rfl) ?_
        first | (rw [if_neg (by omega)] at hQ; exact hQ) | (have fv : v = 41 := (by omega); rw [fv] at hQ; exact hQ) | (have fv : v = 42 := (by omega); rw [fv] at hQ; exact hQ) | (have fv : v = 43 := (by omega); rw [fv] at hQ; exact hQ) | (have fv : v = 44 := (by omega); rw [fv] at hQ; exact hQ) | (have fv : v = 45 := (by omega); rw [fv] at hQ; exact hQ) | (have fv : v = 46 := (by omega); rw [fv] at hQ; exact hQ) | (have fv : v = 47 := (by omega); rw [fv] at hQ; exact hQ) | (have fv : v = 48 := (by omega); rw [fv] at hQ; exact hQ) | (have fv : v = 49 := (by omega); rw [fv] at hQ; exact hQ)
    · -- pc 20
      have f17 : v = 42 := by have y := Classical.not_not.mp c17; rw [lc_z] at y; exact (hx 42 (by decide) (by decide)).mp y
      refine wq_k 23 10101 d268_20 (by decide) rfl ?_
      refine wq_ri d268_23 (rfl) ?_
      first | (rw [if_neg (by omega)] at hQ; exact hQ) | (have fv : v = 41 := (by omega); rw [fv] at hQ; exact hQ) | (have fv : v = 42 := (by omega); rw [fv] at hQ; exact hQ) | (have fv : v = 43 := (by omega); rw [fv] at hQ; exact hQ) | (have fv : v = 44 := (by omega); rw [fv] at hQ; exact hQ) | (have fv : v = 45 := (by omega); rw [fv] at hQ; exact hQ) | (have fv : v = 46 := (by omega); rw [fv] at hQ; exact hQ) | (have fv : v = 47 := (by omega); rw [fv] at hQ; exact hQ) | (have fv : v = 48 := (by omega); rw [fv] at hQ; exact hQ) | (have fv : v = 49 := (by omega); rw [fv] at hQ; exact hQ)
  · -- pc 8
    have f5 : v = 41 := by have y := Classical.not_not.mp c5; rw [lc_z] at y; exact (hx 41 (by decide) (by decide)).mp y
    refine wq_k 11 10100 d268_8 (by decide) rfl ?_
    refine wq_ri d268_11 (rfl) ?_
    first | (rw [if_neg (by omega)] at hQ; exact hQ) | (have fv : v = 41 := (by omega); rw [fv] at hQ; exact hQ) | (have fv : v = 42 := (by omega); rw [fv] at hQ; exact hQ) | (have fv : v = 43 := (by omega); rw [fv] at hQ; exact hQ) | (have fv : v = 44 := (by omega); rw [fv] at hQ; exact hQ) | (have fv : v = 45 := (by omega); rw [fv] at hQ; exact hQ) | (have fv : v = 46 := (by omega); rw [fv] at hQ; exact hQ) | (have fv : v = 47 := (by omega); rw [fv] at hQ; exact hQ) | (have fv : v = 48 := (by omega); rw [fv] at hQ; exact hQ) | (have fv : v = 49 := (by omega); rw [fv] at hQ; exact hQ)
