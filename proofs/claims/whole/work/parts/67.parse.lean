theorem d98_0 : decode prog_6_method_21_code 0 = .ok (.aload_n 0, 1) := by decide +kernel
theorem d98_1 : decode prog_6_method_21_code 1 = .ok (.getfield 19, 3) := by decide +kernel
theorem d98_4 : decode prog_6_method_21_code 4 = .ok (.istore_n 2, 1) := by decide +kernel
theorem d98_5 : decode prog_6_method_21_code 5 = .ok (.aload_n 0, 1) := by decide +kernel
theorem d98_6 : decode prog_6_method_21_code 6 = .ok (.getfield 15, 3) := by decide +kernel
theorem d98_9 : decode prog_6_method_21_code 9 = .ok (.invokevirtual 150, 3) := by decide +kernel
theorem d98_12 : decode prog_6_method_21_code 12 = .ok (.istore_n 3, 1) := by decide +kernel
theorem d98_13 : decode prog_6_method_21_code 13 = .ok (.aload_n 0, 1) := by decide +kernel
theorem d98_14 : decode prog_6_method_21_code 14 = .ok (.invokevirtual 153, 3) := by decide +kernel
theorem d98_17 : decode prog_6_method_21_code 17 = .ok (.aload_n 0, 1) := by decide +kernel
theorem d98_18 : decode prog_6_method_21_code 18 = .ok (.invokevirtual 156, 3) := by decide +kernel
theorem d98_21 : decode prog_6_method_21_code 21 = .ok (.istore 4, 2) := by decide +kernel
theorem d98_23 : decode prog_6_method_21_code 23 = .ok (.sipush 8192, 3) := by decide +kernel
theorem d98_26 : decode prog_6_method_21_code 26 = .ok (.istore 5, 2) := by decide +kernel
theorem d98_28 : decode prog_6_method_21_code 28 = .ok (.iload 5, 2) := by decide +kernel
theorem d98_30 : decode prog_6_method_21_code 30 = .ok (.ifCond .le 82, 3) := by decide +kernel
theorem d98_33 : decode prog_6_method_21_code 33 = .ok (.iload 4, 2) := by decide +kernel
theorem d98_35 : decode prog_6_method_21_code 35 = .ok (.ifCond .lt 77, 3) := by decide +kernel
theorem d98_38 : decode prog_6_method_21_code 38 = .ok (.iload 4, 2) := by decide +kernel
theorem d98_40 : decode prog_6_method_21_code 40 = .ok (.getstatic 159, 3) := by decide +kernel
theorem d98_43 : decode prog_6_method_21_code 43 = .ok (.arraylength, 1) := by decide +kernel
theorem d98_44 : decode prog_6_method_21_code 44 = .ok (.if_icmp .ge 68, 3) := by decide +kernel
theorem d98_47 : decode prog_6_method_21_code 47 = .ok (.getstatic 159, 3) := by decide +kernel
theorem d98_50 : decode prog_6_method_21_code 50 = .ok (.iload 4, 2) := by decide +kernel
theorem d98_52 : decode prog_6_method_21_code 52 = .ok (.iaload, 1) := by decide +kernel
theorem d98_53 : decode prog_6_method_21_code 53 = .ok (.iload_n 1, 1) := by decide +kernel
theorem d98_54 : decode prog_6_method_21_code 54 = .ok (.if_icmp .lt 58, 3) := by decide +kernel
theorem d98_57 : decode prog_6_method_21_code 57 = .ok (.aload_n 0, 1) := by decide +kernel
theorem d98_58 : decode prog_6_method_21_code 58 = .ok (.getfield 15, 3) := by decide +kernel
theorem d98_61 : decode prog_6_method_21_code 61 = .ok (.iload_n 3, 1) := by decide +kernel
theorem d98_62 : decode prog_6_method_21_code 62 = .ok (.bipush 35, 2) := by decide +kernel
theorem d98_64 : decode prog_6_method_21_code 64 = .ok (.aload_n 0, 1) := by decide +kernel
theorem d98_65 : decode prog_6_method_21_code 65 = .ok (.getfield 9, 3) := by decide +kernel
theorem d98_68 : decode prog_6_method_21_code 68 = .ok (.invokevirtual 65, 3) := by decide +kernel
theorem d98_71 : decode prog_6_method_21_code 71 = .ok (.iload 4, 2) := by decide +kernel
theorem d98_73 : decode prog_6_method_21_code 73 = .ok (.invokevirtual 163, 3) := by decide +kernel
theorem d98_76 : decode prog_6_method_21_code 76 = .ok (.aload_n 0, 1) := by decide +kernel
theorem d98_77 : decode prog_6_method_21_code 77 = .ok (.invokevirtual 141, 3) := by decide +kernel
theorem d98_80 : decode prog_6_method_21_code 80 = .ok (.aload_n 0, 1) := by decide +kernel
theorem d98_81 : decode prog_6_method_21_code 81 = .ok (.getstatic 159, 3) := by decide +kernel
theorem d98_84 : decode prog_6_method_21_code 84 = .ok (.iload 4, 2) := by decide +kernel
theorem d98_86 : decode prog_6_method_21_code 86 = .ok (.iaload, 1) := by decide +kernel
theorem d98_87 : decode prog_6_method_21_code 87 = .ok (.iconst 1, 1) := by decide +kernel
theorem d98_88 : decode prog_6_method_21_code 88 = .ok (.iadd, 1) := by decide +kernel
theorem d98_89 : decode prog_6_method_21_code 89 = .ok (.invokevirtual 138, 3) := by decide +kernel
theorem d98_92 : decode prog_6_method_21_code 92 = .ok (.aload_n 0, 1) := by decide +kernel
theorem d98_93 : decode prog_6_method_21_code 93 = .ok (.getfield 15, 3) := by decide +kernel
theorem d98_96 : decode prog_6_method_21_code 96 = .ok (.iload_n 3, 1) := by decide +kernel
theorem d98_97 : decode prog_6_method_21_code 97 = .ok (.invokevirtual 42, 3) := by decide +kernel
theorem d98_100 : decode prog_6_method_21_code 100 = .ok (.aload_n 0, 1) := by decide +kernel
theorem d98_101 : decode prog_6_method_21_code 101 = .ok (.invokevirtual 156, 3) := by decide +kernel
theorem d98_104 : decode prog_6_method_21_code 104 = .ok (.istore 4, 2) := by decide +kernel
theorem d98_106 : decode prog_6_method_21_code 106 = .ok (.iinc 5 (-1), 3) := by decide +kernel
theorem d98_109 : decode prog_6_method_21_code 109 = .ok (.goto (-81), 3) := by decide +kernel
theorem d98_112 : decode prog_6_method_21_code 112 = .ok (.iload_n 1, 1) := by decide +kernel
theorem d98_113 : decode prog_6_method_21_code 113 = .ok (.iconst (-1), 1) := by decide +kernel
theorem d98_114 : decode prog_6_method_21_code 114 = .ok (.if_icmp .ne 8, 3) := by decide +kernel
theorem d98_117 : decode prog_6_method_21_code 117 = .ok (.aload_n 0, 1) := by decide +kernel
theorem d98_118 : decode prog_6_method_21_code 118 = .ok (.iload_n 2, 1) := by decide +kernel
theorem d98_119 : decode prog_6_method_21_code 119 = .ok (.putfield 19, 3) := by decide +kernel
theorem d98_122 : decode prog_6_method_21_code 122 = .ok (.return_, 1) := by decide +kernel
theorem m98 : pm_m 98 = some (⟨"TypeRules$Parser", "readExpression", "(I)V"⟩, prog_6_method_21_code, 6, none, 4, 1, 5) := rfl
theorem d99_0 : decode prog_6_method_23_code 0 = .ok (.aload_n 0, 1) := by decide +kernel
theorem d99_1 : decode prog_6_method_23_code 1 = .ok (.getfield 9, 3) := by decide +kernel
theorem d99_4 : decode prog_6_method_23_code 4 = .ok (.invokevirtual 58, 3) := by decide +kernel
theorem d99_7 : decode prog_6_method_23_code 7 = .ok (.lookupswitch 212 #[(34, 65), (35, 128), (36, 128), (41, 166), (42, 128), (52, 135), (61, 65)], 65) := by decide +kernel
theorem d99_72 : decode prog_6_method_23_code 72 = .ok (.aload_n 0, 1) := by decide +kernel
theorem d99_73 : decode prog_6_method_23_code 73 = .ok (.getfield 15, 3) := by decide +kernel
theorem d99_76 : decode prog_6_method_23_code 76 = .ok (.bipush 36, 2) := by decide +kernel
theorem d99_78 : decode prog_6_method_23_code 78 = .ok (.aload_n 0, 1) := by decide +kernel
theorem d99_79 : decode prog_6_method_23_code 79 = .ok (.getfield 9, 3) := by decide +kernel
theorem d99_82 : decode prog_6_method_23_code 82 = .ok (.invokevirtual 65, 3) := by decide +kernel
theorem d99_85 : decode prog_6_method_23_code 85 = .ok (.aload_n 0, 1) := by decide +kernel
theorem d99_86 : decode prog_6_method_23_code 86 = .ok (.getfield 9, 3) := by decide +kernel
theorem d99_89 : decode prog_6_method_23_code 89 = .ok (.bipush 34, 2) := by decide +kernel
theorem d99_91 : decode prog_6_method_23_code 91 = .ok (.invokevirtual 48, 3) := by decide +kernel
theorem d99_94 : decode prog_6_method_23_code 94 = .ok (.ifCond .eq 7, 3) := by decide +kernel
theorem d99_97 : decode prog_6_method_23_code 97 = .ok (.iconst 1, 1) := by decide +kernel
theorem d99_98 : decode prog_6_method_23_code 98 = .ok (.goto 4, 3) := by decide +kernel
theorem d99_101 : decode prog_6_method_23_code 101 = .ok (.iconst 0, 1) := by decide +kernel
theorem d99_102 : decode prog_6_method_23_code 102 = .ok (.invokevirtual 34, 3) := by decide +kernel
theorem d99_105 : decode prog_6_method_23_code 105 = .ok (.istore_n 1, 1) := by decide +kernel
theorem d99_106 : decode prog_6_method_23_code 106 = .ok (.aload_n 0, 1) := by decide +kernel
theorem d99_107 : decode prog_6_method_23_code 107 = .ok (.invokevirtual 141, 3) := by decide +kernel
theorem d99_110 : decode prog_6_method_23_code 110 = .ok (.aload_n 0, 1) := by decide +kernel
theorem d99_111 : decode prog_6_method_23_code 111 = .ok (.invokevirtual 153, 3) := by decide +kernel
theorem d99_114 : decode prog_6_method_23_code 114 = .ok (.aload_n 0, 1) := by decide +kernel
theorem d99_115 : decode prog_6_method_23_code 115 = .ok (.dup, 1) := by decide +kernel
theorem d99_116 : decode prog_6_method_23_code 116 = .ok (.getfield 19, 3) := by decide +kernel
theorem d99_119 : decode prog_6_method_23_code 119 = .ok (.iconst 1, 1) := by decide +kernel
theorem d99_120 : decode prog_6_method_23_code 120 = .ok (.isub, 1) := by decide +kernel
theorem d99_121 : decode prog_6_method_23_code 121 = .ok (.putfield 19, 3) := by decide +kernel
theorem d99_124 : decode prog_6_method_23_code 124 = .ok (.aload_n 0, 1) := by decide +kernel
theorem d99_125 : decode prog_6_method_23_code 125 = .ok (.getfield 15, 3) := by decide +kernel
theorem d99_128 : decode prog_6_method_23_code 128 = .ok (.iload_n 1, 1) := by decide +kernel
theorem d99_129 : decode prog_6_method_23_code 129 = .ok (.invokevirtual 42, 3) := by decide +kernel
theorem d99_132 : decode prog_6_method_23_code 132 = .ok (.goto 94, 3) := by decide +kernel
theorem d99_135 : decode prog_6_method_23_code 135 = .ok (.aload_n 0, 1) := by decide +kernel
theorem d99_136 : decode prog_6_method_23_code 136 = .ok (.invokevirtual 102, 3) := by decide +kernel
theorem d99_139 : decode prog_6_method_23_code 139 = .ok (.goto 87, 3) := by decide +kernel
theorem d99_142 : decode prog_6_method_23_code 142 = .ok (.aload_n 0, 1) := by decide +kernel
theorem d99_143 : decode prog_6_method_23_code 143 = .ok (.invokevirtual 141, 3) := by decide +kernel
theorem d99_146 : decode prog_6_method_23_code 146 = .ok (.aload_n 0, 1) := by decide +kernel
theorem d99_147 : decode prog_6_method_23_code 147 = .ok (.iconst 0, 1) := by decide +kernel
theorem d99_148 : decode prog_6_method_23_code 148 = .ok (.invokevirtual 138, 3) := by decide +kernel
theorem d99_151 : decode prog_6_method_23_code 151 = .ok (.aload_n 0, 1) := by decide +kernel
theorem d99_152 : decode prog_6_method_23_code 152 = .ok (.dup, 1) := by decide +kernel
theorem d99_153 : decode prog_6_method_23_code 153 = .ok (.getfield 19, 3) := by decide +kernel
theorem d99_156 : decode prog_6_method_23_code 156 = .ok (.iconst 1, 1) := by decide +kernel
theorem d99_157 : decode prog_6_method_23_code 157 = .ok (.isub, 1) := by decide +kernel
theorem d99_158 : decode prog_6_method_23_code 158 = .ok (.putfield 19, 3) := by decide +kernel
theorem d99_161 : decode prog_6_method_23_code 161 = .ok (.aload_n 0, 1) := by decide +kernel
theorem d99_162 : decode prog_6_method_23_code 162 = .ok (.getfield 9, 3) := by decide +kernel
theorem d99_165 : decode prog_6_method_23_code 165 = .ok (.bipush 53, 2) := by decide +kernel
theorem d99_167 : decode prog_6_method_23_code 167 = .ok (.invokevirtual 78, 3) := by decide +kernel
theorem d99_170 : decode prog_6_method_23_code 170 = .ok (.goto 56, 3) := by decide +kernel
theorem d99_173 : decode prog_6_method_23_code 173 = .ok (.aload_n 0, 1) := by decide +kernel
theorem d99_174 : decode prog_6_method_23_code 174 = .ok (.getfield 9, 3) := by decide +kernel
theorem d99_177 : decode prog_6_method_23_code 177 = .ok (.bipush 54, 2) := by decide +kernel
theorem d99_179 : decode prog_6_method_23_code 179 = .ok (.invokevirtual 114, 3) := by decide +kernel
theorem d99_182 : decode prog_6_method_23_code 182 = .ok (.ifCond .eq 11, 3) := by decide +kernel
theorem d99_185 : decode prog_6_method_23_code 185 = .ok (.aload_n 0, 1) := by decide +kernel
theorem d99_186 : decode prog_6_method_23_code 186 = .ok (.iconst 0, 1) := by decide +kernel
theorem d99_187 : decode prog_6_method_23_code 187 = .ok (.invokevirtual 132, 3) := by decide +kernel
theorem d99_190 : decode prog_6_method_23_code 190 = .ok (.goto 36, 3) := by decide +kernel
theorem d99_193 : decode prog_6_method_23_code 193 = .ok (.aload_n 0, 1) := by decide +kernel
theorem d99_194 : decode prog_6_method_23_code 194 = .ok (.getfield 9, 3) := by decide +kernel
theorem d99_197 : decode prog_6_method_23_code 197 = .ok (.bipush 52, 2) := by decide +kernel
theorem d99_199 : decode prog_6_method_23_code 199 = .ok (.invokevirtual 114, 3) := by decide +kernel
theorem d99_202 : decode prog_6_method_23_code 202 = .ok (.ifCond .eq 10, 3) := by decide +kernel
theorem d99_205 : decode prog_6_method_23_code 205 = .ok (.aload_n 0, 1) := by decide +kernel
theorem d99_206 : decode prog_6_method_23_code 206 = .ok (.invokevirtual 167, 3) := by decide +kernel
theorem d99_209 : decode prog_6_method_23_code 209 = .ok (.goto 17, 3) := by decide +kernel
theorem d99_212 : decode prog_6_method_23_code 212 = .ok (.aload_n 0, 1) := by decide +kernel
theorem d99_213 : decode prog_6_method_23_code 213 = .ok (.invokevirtual 170, 3) := by decide +kernel
theorem d99_216 : decode prog_6_method_23_code 216 = .ok (.goto 10, 3) := by decide +kernel
theorem d99_219 : decode prog_6_method_23_code 219 = .ok (.aload_n 0, 1) := by decide +kernel
theorem d99_220 : decode prog_6_method_23_code 220 = .ok (.getfield 9, 3) := by decide +kernel
theorem d99_223 : decode prog_6_method_23_code 223 = .ok (.invokevirtual 105, 3) := by decide +kernel
theorem d99_226 : decode prog_6_method_23_code 226 = .ok (.return_, 1) := by decide +kernel
theorem m99 : pm_m 99 = some (⟨"TypeRules$Parser", "readOperand", "()V"⟩, prog_6_method_23_code, 2, none, 4, 0, 5) := rfl
theorem d100_0 : decode prog_6_method_24_code 0 = .ok (.aload_n 0, 1) := by decide +kernel
theorem d100_1 : decode prog_6_method_24_code 1 = .ok (.getfield 15, 3) := by decide +kernel
theorem d100_4 : decode prog_6_method_24_code 4 = .ok (.bipush 32, 2) := by decide +kernel
theorem d100_6 : decode prog_6_method_24_code 6 = .ok (.aload_n 0, 1) := by decide +kernel
theorem d100_7 : decode prog_6_method_24_code 7 = .ok (.getfield 9, 3) := by decide +kernel
theorem d100_10 : decode prog_6_method_24_code 10 = .ok (.invokevirtual 65, 3) := by decide +kernel
theorem d100_13 : decode prog_6_method_24_code 13 = .ok (.aload_n 0, 1) := by decide +kernel
theorem d100_14 : decode prog_6_method_24_code 14 = .ok (.getfield 9, 3) := by decide +kernel
theorem d100_17 : decode prog_6_method_24_code 17 = .ok (.invokevirtual 71, 3) := by decide +kernel
theorem d100_20 : decode prog_6_method_24_code 20 = .ok (.invokevirtual 34, 3) := by decide +kernel
theorem d100_23 : decode prog_6_method_24_code 23 = .ok (.istore_n 2, 1) := by decide +kernel
theorem d100_24 : decode prog_6_method_24_code 24 = .ok (.aload_n 0, 1) := by decide +kernel
theorem d100_25 : decode prog_6_method_24_code 25 = .ok (.getfield 9, 3) := by decide +kernel
theorem d100_28 : decode prog_6_method_24_code 28 = .ok (.invokevirtual 68, 3) := by decide +kernel
theorem d100_31 : decode prog_6_method_24_code 31 = .ok (.aload_n 0, 1) := by decide +kernel
theorem d100_32 : decode prog_6_method_24_code 32 = .ok (.invokevirtual 141, 3) := by decide +kernel
theorem d100_35 : decode prog_6_method_24_code 35 = .ok (.aload_n 0, 1) := by decide +kernel
theorem d100_36 : decode prog_6_method_24_code 36 = .ok (.iload_n 1, 1) := by decide +kernel
theorem d100_37 : decode prog_6_method_24_code 37 = .ok (.invokevirtual 138, 3) := by decide +kernel
theorem d100_40 : decode prog_6_method_24_code 40 = .ok (.aload_n 0, 1) := by decide +kernel
theorem d100_41 : decode prog_6_method_24_code 41 = .ok (.dup, 1) := by decide +kernel
theorem d100_42 : decode prog_6_method_24_code 42 = .ok (.getfield 19, 3) := by decide +kernel
theorem d100_45 : decode prog_6_method_24_code 45 = .ok (.iconst 1, 1) := by decide +kernel
theorem d100_46 : decode prog_6_method_24_code 46 = .ok (.isub, 1) := by decide +kernel
theorem d100_47 : decode prog_6_method_24_code 47 = .ok (.putfield 19, 3) := by decide +kernel
theorem d100_50 : decode prog_6_method_24_code 50 = .ok (.aload_n 0, 1) := by decide +kernel
theorem d100_51 : decode prog_6_method_24_code 51 = .ok (.getfield 9, 3) := by decide +kernel
theorem d100_54 : decode prog_6_method_24_code 54 = .ok (.bipush 55, 2) := by decide +kernel
theorem d100_56 : decode prog_6_method_24_code 56 = .ok (.invokevirtual 78, 3) := by decide +kernel
theorem d100_59 : decode prog_6_method_24_code 59 = .ok (.aload_n 0, 1) := by decide +kernel
theorem d100_60 : decode prog_6_method_24_code 60 = .ok (.getfield 15, 3) := by decide +kernel
theorem d100_63 : decode prog_6_method_24_code 63 = .ok (.iload_n 2, 1) := by decide +kernel
theorem d100_64 : decode prog_6_method_24_code 64 = .ok (.invokevirtual 42, 3) := by decide +kernel
theorem d100_67 : decode prog_6_method_24_code 67 = .ok (.return_, 1) := by decide +kernel
theorem m100 : pm_m 100 = some (⟨"TypeRules$Parser", "readElement", "(I)V"⟩, prog_6_method_24_code, 3, none, 4, 1, 5) := rfl
theorem d101_0 : decode prog_6_method_25_code 0 = .ok (.aload_n 0, 1) := by decide +kernel
theorem d101_1 : decode prog_6_method_25_code 1 = .ok (.getfield 15, 3) := by decide +kernel
theorem d101_4 : decode prog_6_method_25_code 4 = .ok (.bipush 34, 2) := by decide +kernel
theorem d101_6 : decode prog_6_method_25_code 6 = .ok (.aload_n 0, 1) := by decide +kernel
theorem d101_7 : decode prog_6_method_25_code 7 = .ok (.getfield 9, 3) := by decide +kernel
theorem d101_10 : decode prog_6_method_25_code 10 = .ok (.invokevirtual 65, 3) := by decide +kernel
theorem d101_13 : decode prog_6_method_25_code 13 = .ok (.aload_n 0, 1) := by decide +kernel
theorem d101_14 : decode prog_6_method_25_code 14 = .ok (.getfield 9, 3) := by decide +kernel
theorem d101_17 : decode prog_6_method_25_code 17 = .ok (.invokevirtual 71, 3) := by decide +kernel
theorem d101_20 : decode prog_6_method_25_code 20 = .ok (.invokevirtual 34, 3) := by decide +kernel
theorem d101_23 : decode prog_6_method_25_code 23 = .ok (.istore_n 1, 1) := by decide +kernel
theorem d101_24 : decode prog_6_method_25_code 24 = .ok (.aload_n 0, 1) := by decide +kernel
theorem d101_25 : decode prog_6_method_25_code 25 = .ok (.getfield 9, 3) := by decide +kernel
theorem d101_28 : decode prog_6_method_25_code 28 = .ok (.invokevirtual 68, 3) := by decide +kernel
theorem d101_31 : decode prog_6_method_25_code 31 = .ok (.aload_n 0, 1) := by decide +kernel
theorem d101_32 : decode prog_6_method_25_code 32 = .ok (.invokevirtual 141, 3) := by decide +kernel
theorem d101_35 : decode prog_6_method_25_code 35 = .ok (.aload_n 0, 1) := by decide +kernel
theorem d101_36 : decode prog_6_method_25_code 36 = .ok (.getfield 9, 3) := by decide +kernel
theorem d101_39 : decode prog_6_method_25_code 39 = .ok (.bipush 53, 2) := by decide +kernel
theorem d101_41 : decode prog_6_method_25_code 41 = .ok (.invokevirtual 48, 3) := by decide +kernel
theorem d101_44 : decode prog_6_method_25_code 44 = .ok (.ifCond .ne 7, 3) := by decide +kernel
theorem d101_47 : decode prog_6_method_25_code 47 = .ok (.iconst 1, 1) := by decide +kernel
theorem d101_48 : decode prog_6_method_25_code 48 = .ok (.goto 4, 3) := by decide +kernel
theorem d101_51 : decode prog_6_method_25_code 51 = .ok (.iconst 0, 1) := by decide +kernel
theorem d101_52 : decode prog_6_method_25_code 52 = .ok (.istore_n 2, 1) := by decide +kernel
theorem d101_53 : decode prog_6_method_25_code 53 = .ok (.sipush 8192, 3) := by decide +kernel
theorem d101_56 : decode prog_6_method_25_code 56 = .ok (.istore_n 3, 1) := by decide +kernel
theorem d101_57 : decode prog_6_method_25_code 57 = .ok (.iload_n 2, 1) := by decide +kernel
theorem d101_58 : decode prog_6_method_25_code 58 = .ok (.ifCond .eq 39, 3) := by decide +kernel
theorem d101_61 : decode prog_6_method_25_code 61 = .ok (.iload_n 3, 1) := by decide +kernel
theorem d101_62 : decode prog_6_method_25_code 62 = .ok (.ifCond .le 35, 3) := by decide +kernel
theorem d101_65 : decode prog_6_method_25_code 65 = .ok (.aload_n 0, 1) := by decide +kernel
theorem d101_66 : decode prog_6_method_25_code 66 = .ok (.iconst 0, 1) := by decide +kernel
theorem d101_67 : decode prog_6_method_25_code 67 = .ok (.invokevirtual 138, 3) := by decide +kernel
theorem d101_70 : decode prog_6_method_25_code 70 = .ok (.aload_n 0, 1) := by decide +kernel
theorem d101_71 : decode prog_6_method_25_code 71 = .ok (.getfield 9, 3) := by decide +kernel
theorem d101_74 : decode prog_6_method_25_code 74 = .ok (.bipush 56, 2) := by decide +kernel
theorem d101_76 : decode prog_6_method_25_code 76 = .ok (.invokevirtual 48, 3) := by decide +kernel
theorem d101_79 : decode prog_6_method_25_code 79 = .ok (.istore_n 2, 1) := by decide +kernel
theorem d101_80 : decode prog_6_method_25_code 80 = .ok (.iload_n 2, 1) := by decide +kernel
theorem d101_81 : decode prog_6_method_25_code 81 = .ok (.ifCond .eq 10, 3) := by decide +kernel
theorem d101_84 : decode prog_6_method_25_code 84 = .ok (.aload_n 0, 1) := by decide +kernel
theorem d101_85 : decode prog_6_method_25_code 85 = .ok (.getfield 9, 3) := by decide +kernel
theorem d101_88 : decode prog_6_method_25_code 88 = .ok (.invokevirtual 68, 3) := by decide +kernel
theorem d101_91 : decode prog_6_method_25_code 91 = .ok (.iinc 3 (-1), 3) := by decide +kernel
theorem d101_94 : decode prog_6_method_25_code 94 = .ok (.goto (-37), 3) := by decide +kernel
theorem d101_97 : decode prog_6_method_25_code 97 = .ok (.aload_n 0, 1) := by decide +kernel
theorem d101_98 : decode prog_6_method_25_code 98 = .ok (.dup, 1) := by decide +kernel
theorem d101_99 : decode prog_6_method_25_code 99 = .ok (.getfield 19, 3) := by decide +kernel
theorem d101_102 : decode prog_6_method_25_code 102 = .ok (.iconst 1, 1) := by decide +kernel
theorem d101_103 : decode prog_6_method_25_code 103 = .ok (.isub, 1) := by decide +kernel
theorem d101_104 : decode prog_6_method_25_code 104 = .ok (.putfield 19, 3) := by decide +kernel
theorem d101_107 : decode prog_6_method_25_code 107 = .ok (.aload_n 0, 1) := by decide +kernel
theorem d101_108 : decode prog_6_method_25_code 108 = .ok (.getfield 9, 3) := by decide +kernel
theorem d101_111 : decode prog_6_method_25_code 111 = .ok (.bipush 53, 2) := by decide +kernel
theorem d101_113 : decode prog_6_method_25_code 113 = .ok (.invokevirtual 78, 3) := by decide +kernel
theorem d101_116 : decode prog_6_method_25_code 116 = .ok (.aload_n 0, 1) := by decide +kernel
theorem d101_117 : decode prog_6_method_25_code 117 = .ok (.getfield 15, 3) := by decide +kernel
theorem d101_120 : decode prog_6_method_25_code 120 = .ok (.iload_n 1, 1) := by decide +kernel
theorem d101_121 : decode prog_6_method_25_code 121 = .ok (.invokevirtual 42, 3) := by decide +kernel
theorem d101_124 : decode prog_6_method_25_code 124 = .ok (.return_, 1) := by decide +kernel
theorem m101 : pm_m 101 = some (⟨"TypeRules$Parser", "readCall", "()V"⟩, prog_6_method_25_code, 4, none, 4, 0, 5) := rfl
/-! EXPRESSIONS -/
theorem pc_dec {T : pg_T} {n : Nat} {σ0 σ : pm_S} {c : pg_C} {l s : List pg_N} (h : pc_R T n σ0 σ c l s) (ho : pg_live T c → 1 ≤ c.2.2) : pc_R T n σ0 (pm_pi σ 4 2 (σ.1 4 2 - 1)) (pg_dec c) l s := by
  obtain ⟨r1, r2, r3, r4, r5, r6, r7, r8⟩ := h
  refine ⟨pc_pi r1 (by decide), r2, r3, r4, r5, fun z => ?_, r7, r8⟩
  have z : pg_live T c := z
  obtain ⟨h1, h2⟩ := r6 z
  have := ho z
  refine ⟨?_, by show c.2.2 - 1 ≤ 60; omega⟩
  show σ.1 4 2 - 1 = nI (c.2.2 - 1)
  rw [h1]
  exact pk_sub (b := 1) this
theorem pc_sop {T : pg_T} {n : Nat} {σ0 σ : pm_S} {c : pg_C} {l s : List pg_N} {v : Int32} {o : Nat} (h : pc_R T n σ0 σ c l s) (ho : pg_live T c → v = nI o ∧ o ≤ 60) : pc_R T n σ0 (pm_pi σ 4 2 v) (c.1, c.2.1, o) l s := by
  obtain ⟨r1, r2, r3, r4, r5, r6, r7, r8⟩ := h
  exact ⟨pc_pi r1 (by decide), r2, r3, r4, r5, fun z => ho z, r7, r8⟩
theorem pc_op {T : pg_T} {n : Nat} {σ0 σ : pm_S} {c : pg_C} {l s : List pg_N} (h : pc_R T n σ0 σ c l s) : pg_live T c → σ.1 4 2 = nI c.2.2 ∧ c.2.2 ≤ 60 := h.2.2.2.2.2.1
theorem pg_oE (T : pg_T) : pg_O T (pg_E T) := fun _ _ => Nat.le_refl _
theorem pg_sgl {T : pg_T} {c : pg_C} {g : Nat} (h : pg_sign (pg_k T c) = some g) : pg_live T c ∧ T.1 c.1 ≠ 44 := by
  by_cases hd : pg_dead T c
  · rw [pg_gsign hd] at h; cases h
  · have hl := pg_ld.mp hd
    refine ⟨hl, fun z => ?_⟩
    rw [show pg_k T c = 44 from (if_pos hl.1).trans z] at h
    simp [pg_sign] at h
theorem pg_bt : ∀ g, g < 14 → ([0, 1, 2, 3, 3, 4, 4, 4, 4, 5, 5, 6, 6, 6] : List Int32).getD g 0 = nI (pg_bind g) := by decide
theorem pg_bb (g : Nat) : pg_bind g ≤ 6 := by unfold pg_bind; split; omega; split; omega; split; omega; split <;> omega
/-- what is called to read E -/
def pe_E (T : pg_T) (n : Nat) (σ0 : pm_S) (D : Nat) (cl : Int32) (E : pg_P) (c : pg_C) : Prop := ∀ (σ : pm_S) (l s : List pg_N) (Q : Option Value → pm_S → Prop), pc_R T n σ0 σ c l s → (∀ σ', pc_R T n σ0 σ' (E c).1 l (s ++ (E c).2) → Q none σ') → pm_call pm_Y0 D 98 [.ref 4, .int cl] σ Q
theorem pg_o1 {T : pg_T} {E : pg_P} (hO : pg_O T E) (hD : pg_D T E) {c : pg_C} (h : pg_live T (E (pg_opn c)).1) : 1 ≤ (E (pg_opn c)).1.2.2 := by
  have h1 := hO _ h
  have h2 := (pg_lopn (pg_bk hD h)).2.2
  rw [h2] at h1
  have : c.2.2 + 1 ≤ (E (pg_opn c)).1.2.2 := by rw [h2]; exact h1
  omega
theorem pe100 {d : Nat} {T : pg_T} {n : Nat} {σ0 σ : pm_S} {c : pg_C} {l s : List pg_N} {Q : Option Value → pm_S → Prop} {cl : Int32} {E : pg_P} (hK : pc_K T n σ0) (hl : pg_live T c ∧ T.1 c.1 ≠ 44) (hl2 : pg_live T (pg_stp c) ∧ T.1 (pg_stp c).1 ≠ 44) (hO : pg_O T E) (hD : pg_D T E) (hE : pe_E T n σ0 (d + 2) cl E (pg_opn (pg_stp c))) (hR : pc_R T n σ0 σ c l s) (hQ : ∀ σ', pc_R T n σ0 σ' (pg_elem T E c).1 l (s ++ (pg_elem T E c).2) → Q none σ') : pm_call pm_Y0 (d + 3) 100 [.ref 4, .int cl] σ Q := by
  refine wq_m m100 (Nat.le_of_ble_eq_true rfl) (by decide) rfl ?_
  refine wq_l 1 d100_0 rfl rfl rfl rfl ?_
  refine wq_gr (ci := 4) (j := 1) (q := 3) 4 d100_1 rfl rfl rfl rfl ?_
  refine wq_k 6 32 d100_4 (by decide) rfl ?_
  refine wq_l 7 d100_6 rfl rfl rfl rfl ?_
  refine wq_gr (ci := 4) (j := 0) (q := 2) 10 d100_7 rfl rfl rfl rfl ?_
  refine wq_v 13 [] d100_10 rfl rfl m46 rfl rfl (Nat.le_of_ble_eq_true rfl) rfl (pk46 hK hR ?_)
  refine wq_l 14 d100_13 rfl rfl rfl rfl ?_
  refine wq_gr (ci := 4) (j := 0) (q := 2) 17 d100_14 rfl rfl rfl rfl ?_
  refine wq_v 20 [] d100_17 rfl rfl m48 rfl rfl (Nat.le_of_ble_eq_true rfl) rfl (pk48 hK hR ?_)
  refine wq_v 23 [_, _, _] d100_20 rfl rfl m57 rfl rfl (Nat.le_of_ble_eq_true rfl) rfl (pk57o (k := 32) hR (fun σ20 x20 hx20 h20 => ?_))
  refine wq_s 24 d100_23 rfl rfl (Nat.le_of_ble_eq_true rfl) rfl rfl ?_
  refine wq_l 25 d100_24 rfl rfl rfl rfl ?_
  refine wq_gr (ci := 4) (j := 0) (q := 2) 28 d100_25 rfl rfl rfl rfl ?_
  refine wq_v 31 [] d100_28 rfl rfl m47 rfl rfl (Nat.le_of_ble_eq_true rfl) rfl (pk47 hK h20 (hl).1 (hl).2 (fun σ28 h28 => ?_))
  refine wq_l 32 d100_31 rfl rfl rfl rfl ?_
  refine wq_v 35 [] d100_32 rfl rfl m97 rfl rfl (Nat.le_of_ble_eq_true rfl) rfl (pk97 hK h28 (hl2).1 (hl2).2 (fun σ32 h32 => ?_))
  refine wq_l 36 d100_35 rfl rfl rfl rfl ?_
  refine wq_l 37 d100_36 rfl rfl rfl rfl ?_
  refine wq_v 40 [_] d100_37 rfl rfl m98 rfl rfl (Nat.le_of_ble_eq_true rfl) rfl (hE _ _ _ _ h32 (fun σ37 h37 => ?_))
  refine wq_l 41 d100_40 rfl rfl rfl rfl ?_
  refine wq_a 42 d100_41 rfl rfl ?_
  refine wq_gi (ci := 4) (j := 2) 45 d100_42 rfl rfl rfl rfl ?_
  refine wq_k 46 1 d100_45 (by decide) rfl ?_
  refine wq_a 47 d100_46 rfl rfl ?_
  refine wq_pf (ci := 4) (j := 2) 50 d100_47 rfl rfl rfl ⟨rfl, rfl⟩ rfl ?_
  have hd47 := pc_dec h37 (fun z => pg_o1 hO hD z)
  refine wq_l 51 d100_50 rfl rfl rfl rfl ?_
  refine wq_gr (ci := 4) (j := 0) (q := 2) 54 d100_51 rfl rfl rfl rfl ?_
  refine wq_k 56 55 d100_54 (by decide) rfl ?_
  refine wq_v 59 [_] d100_56 rfl rfl m49 rfl rfl (Nat.le_of_ble_eq_true rfl) rfl (pk49 (k := 55) hK (by decide) hd47 (fun σ56 h56 => ?_))
  refine wq_l 60 d100_59 rfl rfl rfl rfl ?_
  refine wq_gr (ci := 4) (j := 1) (q := 3) 63 d100_60 rfl rfl rfl rfl ?_
  refine wq_l 64 d100_63 rfl rfl rfl rfl ?_
  refine wq_v 67 [_] d100_64 rfl rfl m59 rfl rfl (Nat.le_of_ble_eq_true rfl) rfl (pk59 hx20 h56 (fun σ64 h64 => ?_))
  refine wq_rv d100_67 ?_
  exact hQ _ (pc_e h64 (by first | (simp only [pg_elem, pg_node, pg_seq, pg_tok, if_true, if_false, Bool.false_eq_true]; done) | rfl) (by simp only [pg_elem, pg_node, pg_seq, pg_tok, List.append_assoc, List.nil_append, List.append_nil, List.cons_append, List.singleton_append, List.length_append, List.length_cons, List.length_nil, List.length_singleton, if_true, if_false, Bool.false_eq_true]; done))
theorem pl101 {d : Nat} {T : pg_T} {n : Nat} {σ0 : pm_S} {l : List pg_N} {Q : Option Value → pm_S → Prop} {x : Int32} {E : pg_P} {f : Nat} (hK : pc_K T n σ0) (hO : pg_O T E) (hD : pg_D T E) (hE : ∀ c, (pg_live T c → f ≤ c.2.2) → pe_E T n σ0 (d + 2) 0 E c) : ∀ (k : Nat) (σ : pm_S) (c : pg_C) (s : List pg_N), k ≤ 8192 → (pg_live T c → f ≤ c.2.2) → pc_R T n σ0 σ c l s → (∀ σ' (y w : Int32), pc_R T n σ0 σ' (pg_sep T E k c).1 l (s ++ (pg_sep T E k c).2) → pm_WP pm_Y0 (pm_call pm_Y0 (d + 2)) 4 prog_6_method_25_code none Q 97 [.ref 4, .int x, .int w, .int y] [] σ') → pm_WP pm_Y0 (pm_call pm_Y0 (d + 2)) 4 prog_6_method_25_code none Q 57 [.ref 4, .int x, .int 1, .int (nI k)] [] σ := by
  intro k
  induction k with
  | zero =>
    intro σ c s hk hf hR hX
    refine wq_l 58 d101_57 rfl rfl rfl rfl ?_
    refine wq_b 97 61 d101_58 rfl (by decide) rfl (fun c58 => absurd c58 (by decide)) (fun c58 => ?_)
    refine wq_l 62 d101_61 rfl rfl rfl rfl ?_
    refine wq_b 97 65 d101_62 rfl (by decide) rfl (fun c62 => ?_) (fun c62 => absurd (by decide) c62)
    exact hX _ _ _ (pc_e hR rfl (by simp only [pg_sep, pg_nil, List.append_nil]; done))
  | succ k ih =>
    intro σ c s hk hf hR hX
    have ek := nI_toInt (n := k + 1) (by omega)
    refine wq_l 58 d101_57 rfl rfl rfl rfl ?_
    refine wq_b 97 61 d101_58 rfl (by decide) rfl (fun c58 => absurd c58 (by decide)) (fun c58 => ?_)
    refine wq_l 62 d101_61 rfl rfl rfl rfl ?_
    refine wq_b 97 65 d101_62 rfl (by decide) rfl (fun c62 => absurd c62 ((by simp only [i_lt, i_le, i_eq, ne_eq, Int32.reduceToInt, b2_0, b2_1, decide_eq_true_eq, decide_eq_false_iff_not, Bool.not_eq_true, Bool.not_eq_false] at * <;> omega))) (fun c62 => ?_)
    refine wq_l 66 d101_65 rfl rfl rfl rfl ?_
    refine wq_k 67 0 d101_66 (by decide) rfl ?_
    refine wq_v 70 [_] d101_67 rfl rfl m98 rfl rfl (Nat.le_of_ble_eq_true rfl) rfl (hE _ hf _ _ _ _ hR (fun σ67 h67 => ?_))
    refine wq_l 71 d101_70 rfl rfl rfl rfl ?_
    refine wq_gr (ci := 4) (j := 0) (q := 2) 74 d101_71 rfl rfl rfl rfl ?_
    refine wq_k 76 56 d101_74 (by decide) rfl ?_
    refine wq_v 79 [_] d101_76 rfl rfl m51 rfl rfl (Nat.le_of_ble_eq_true rfl) rfl (pk51 (k := 56) hK (by decide) h67 ?_)
    refine wq_s 80 d101_79 rfl rfl (Nat.le_of_ble_eq_true rfl) rfl rfl ?_
    refine wq_l 81 d101_80 rfl rfl rfl rfl ?_
    refine wq_b 91 84 d101_81 rfl (by decide) rfl (fun c81 => ?_) (fun c81 => ?_)
    · -- pc 91
      have f81 := b2z c81
      refine wq_i 94 d101_91 rfl rfl rfl ?_
      refine wq_g 57 d101_94 (by decide) ?_
      rw [show nI (k + 1) + Int32.ofInt (-1) = nI k from nI_m1 k]
      rw [show b2 (pg_is T 56 (E c).1) = 0 from b2_f f81]
      refine wq_l 58 d101_57 rfl rfl rfl rfl ?_
      refine wq_b 97 61 d101_58 rfl (by decide) rfl (fun _ => ?_) (fun z => absurd rfl z)
      exact hX _ _ _ (pc_e h67 (by simp only [pg_sep, pg_seq, pg_ite, pg_tok, pg_nil, if_true, if_false, Bool.false_eq_true, f81]; done) (by simp only [pg_sep, pg_seq, pg_ite, pg_tok, pg_nil, if_true, if_false, Bool.false_eq_true, f81, List.append_assoc, List.nil_append, List.append_nil, List.cons_append, List.singleton_append, List.length_append, List.length_cons, List.length_nil, List.length_singleton]; done))
    · -- pc 84
      have f81 := b2n c81
      refine wq_l 85 d101_84 rfl rfl rfl rfl ?_
      refine wq_gr (ci := 4) (j := 0) (q := 2) 88 d101_85 rfl rfl rfl rfl ?_
      refine wq_v 91 [] d101_88 rfl rfl m47 rfl rfl (Nat.le_of_ble_eq_true rfl) rfl (pk47 hK h67 (pg_isl f81 (by decide)).1 (pg_isl f81 (by decide)).2 (fun σ88 h88 => ?_))
      refine wq_i 94 d101_91 rfl rfl rfl ?_
      refine wq_g 57 d101_94 (by decide) ?_
      rw [show nI (k + 1) + Int32.ofInt (-1) = nI k from nI_m1 k]
      rw [show b2 (pg_is T 56 (E c).1) = 1 from b2_t f81]
      exact ih _ _ _ (by omega) (fun z => by
        have h1 := pg_isl f81 (by decide)
        have h2 := hO c h1.1
        have h3 := hf (pg_bk hD h1.1)
        have h4 : (pg_stp (E c).1).2.2 = (E c).1.2.2 := pg_ostp
        omega) h88 (fun σ' y w h' => hX σ' y w (pc_e h' (by simp only [pg_sep, pg_seq, pg_ite, pg_tok, pg_nil, if_true, if_false, Bool.false_eq_true, f81]; done) (by simp only [pg_sep, pg_seq, pg_ite, pg_tok, pg_nil, if_true, if_false, Bool.false_eq_true, f81, List.append_assoc, List.nil_append, List.append_nil, List.cons_append, List.singleton_append, List.length_append, List.length_cons, List.length_nil, List.length_singleton]; done)))
theorem pq101_97 {d : Nat} {T : pg_T} {n : Nat} {σ0 σ : pm_S} {c : pg_C} {L r : List pg_N} {k0 p0 z0 : Nat} {v0 x : Int32} {Q : Option Value → pm_S → Prop} {w y : Int32} (hK : pc_K T n σ0) (ho : pg_live T c → 1 ≤ c.2.2) (hx : L.length < 16386 → x = nI L.length) (hR : pc_R T n σ0 σ c (L ++ [(k0, p0, v0, z0)]) r) (hQ : ∀ σ', pc_R T n σ0 σ' (pg_tok (fun c => pg_exp T 53 (pg_dec c)) c).1 L ((k0, p0, v0, (r ++ (pg_tok (fun c => pg_exp T 53 (pg_dec c)) c).2).length + 1) :: (r ++ (pg_tok (fun c => pg_exp T 53 (pg_dec c)) c).2)) → Q none σ') : pm_WP pm_Y0 (pm_call pm_Y0 (d + 2)) 4 prog_6_method_25_code none Q 97 [.ref 4, .int x, .int w, .int y] [] σ := by
  refine wq_l 98 d101_97 rfl rfl rfl rfl ?_
  refine wq_a 99 d101_98 rfl rfl ?_
  refine wq_gi (ci := 4) (j := 2) 102 d101_99 rfl rfl rfl rfl ?_
  refine wq_k 103 1 d101_102 (by decide) rfl ?_
  refine wq_a 104 d101_103 rfl rfl ?_
  refine wq_pf (ci := 4) (j := 2) 107 d101_104 rfl rfl rfl ⟨rfl, rfl⟩ rfl ?_
  have hd104 := pc_dec hR (ho)
  refine wq_l 108 d101_107 rfl rfl rfl rfl ?_
  refine wq_gr (ci := 4) (j := 0) (q := 2) 111 d101_108 rfl rfl rfl rfl ?_
  refine wq_k 113 53 d101_111 (by decide) rfl ?_
  refine wq_v 116 [_] d101_113 rfl rfl m49 rfl rfl (Nat.le_of_ble_eq_true rfl) rfl (pk49 (k := 53) hK (by decide) hd104 (fun σ113 h113 => ?_))
  refine wq_l 117 d101_116 rfl rfl rfl rfl ?_
  refine wq_gr (ci := 4) (j := 1) (q := 3) 120 d101_117 rfl rfl rfl rfl ?_
  refine wq_l 121 d101_120 rfl rfl rfl rfl ?_
  refine wq_v 124 [_] d101_121 rfl rfl m59 rfl rfl (Nat.le_of_ble_eq_true rfl) rfl (pk59 hx h113 (fun σ121 h121 => ?_))
  refine wq_rv d101_124 ?_
  exact hQ _ (pc_e h121 (by simp only [pg_tok, if_true, if_false, Bool.false_eq_true]; done) (by simp only [pg_tok, List.append_assoc, List.nil_append, List.append_nil, List.cons_append, List.singleton_append, List.length_append, List.length_cons, List.length_nil, List.length_singleton, if_true, if_false, Bool.false_eq_true]; done))
theorem pe101 {d : Nat} {T : pg_T} {n : Nat} {σ0 σ : pm_S} {c : pg_C} {l s : List pg_N} {Q : Option Value → pm_S → Prop} {E : pg_P} {f : Nat} (hK : pc_K T n σ0) (hl : pg_live T c ∧ T.1 c.1 ≠ 44) (hl2 : pg_live T (pg_stp c) ∧ T.1 (pg_stp c).1 ≠ 44) (hO : pg_O T E) (hD : pg_D T E) (hE : ∀ c, (pg_live T c → f ≤ c.2.2) → pe_E T n σ0 (d + 2) 0 E c) (hf : pg_live T (pg_opn (pg_stp c)) → f ≤ (pg_opn (pg_stp c)).2.2) (hR : pc_R T n σ0 σ c l s) (hQ : ∀ σ', pc_R T n σ0 σ' (pg_call T E c).1 l (s ++ (pg_call T E c).2) → Q none σ') : pm_call pm_Y0 (d + 3) 101 [.ref 4] σ Q := by
  have ho1 : pg_live T (pg_opn (pg_stp c)) → 1 ≤ (pg_opn (pg_stp c)).2.2 := fun z => by
    have := (pg_lopn z).2.2
    rw [this]
    exact Nat.succ_pos _
  refine wq_m m101 (Nat.le_of_ble_eq_true rfl) (by decide) rfl ?_
  refine wq_l 1 d101_0 rfl rfl rfl rfl ?_
  refine wq_gr (ci := 4) (j := 1) (q := 3) 4 d101_1 rfl rfl rfl rfl ?_
  refine wq_k 6 34 d101_4 (by decide) rfl ?_
  refine wq_l 7 d101_6 rfl rfl rfl rfl ?_
  refine wq_gr (ci := 4) (j := 0) (q := 2) 10 d101_7 rfl rfl rfl rfl ?_
  refine wq_v 13 [] d101_10 rfl rfl m46 rfl rfl (Nat.le_of_ble_eq_true rfl) rfl (pk46 hK hR ?_)
  refine wq_l 14 d101_13 rfl rfl rfl rfl ?_
  refine wq_gr (ci := 4) (j := 0) (q := 2) 17 d101_14 rfl rfl rfl rfl ?_
  refine wq_v 20 [] d101_17 rfl rfl m48 rfl rfl (Nat.le_of_ble_eq_true rfl) rfl (pk48 hK hR ?_)
  refine wq_v 23 [_, _, _] d101_20 rfl rfl m57 rfl rfl (Nat.le_of_ble_eq_true rfl) rfl (pk57o (k := 34) hR (fun σ20 x20 hx20 h20 => ?_))
  refine wq_s 24 d101_23 rfl rfl (Nat.le_of_ble_eq_true rfl) rfl rfl ?_
  refine wq_l 25 d101_24 rfl rfl rfl rfl ?_
  refine wq_gr (ci := 4) (j := 0) (q := 2) 28 d101_25 rfl rfl rfl rfl ?_
  refine wq_v 31 [] d101_28 rfl rfl m47 rfl rfl (Nat.le_of_ble_eq_true rfl) rfl (pk47 hK h20 (hl).1 (hl).2 (fun σ28 h28 => ?_))
  refine wq_l 32 d101_31 rfl rfl rfl rfl ?_
  refine wq_v 35 [] d101_32 rfl rfl m97 rfl rfl (Nat.le_of_ble_eq_true rfl) rfl (pk97 hK h28 (hl2).1 (hl2).2 (fun σ32 h32 => ?_))
  refine wq_l 36 d101_35 rfl rfl rfl rfl ?_
  refine wq_gr (ci := 4) (j := 0) (q := 2) 39 d101_36 rfl rfl rfl rfl ?_
  refine wq_k 41 53 d101_39 (by decide) rfl ?_
  refine wq_v 44 [_] d101_41 rfl rfl m51 rfl rfl (Nat.le_of_ble_eq_true rfl) rfl (pk51 (k := 53) hK (by decide) h32 ?_)
  refine wq_b 51 47 d101_44 rfl (by decide) rfl (fun c44 => ?_) (fun c44 => ?_)
  · -- pc 51
    have f44 := b2n c44
    refine wq_k 52 0 d101_51 (by decide) rfl ?_
    refine wq_s 53 d101_52 rfl rfl (Nat.le_of_ble_eq_true rfl) rfl rfl ?_
    refine wq_k 56 8192 d101_53 (by decide) rfl ?_
    refine wq_s 57 d101_56 rfl rfl (Nat.le_of_ble_eq_true rfl) rfl rfl ?_
    refine wq_l 58 d101_57 rfl rfl rfl rfl ?_
    refine wq_b 97 61 d101_58 rfl (by decide) rfl (fun _ => ?_) (fun z => absurd rfl z)
    exact pq101_97 hK ho1 hx20 h32 (fun σ' h' => hQ σ' (pc_e h' (by simp only [pg_call, pg_node, pg_seq, pg_tok, pg_ite, pg_nil, if_true, if_false, Bool.false_eq_true, f44]; done) (by simp only [pg_call, pg_node, pg_seq, pg_tok, pg_ite, pg_nil, List.append_assoc, List.nil_append, List.append_nil, List.cons_append, List.singleton_append, List.length_append, List.length_cons, List.length_nil, List.length_singleton, if_true, if_false, Bool.false_eq_true, f44]; done)))
  · -- pc 47
    have f44 := b2y c44
    refine wq_k 48 1 d101_47 (by decide) rfl ?_
    refine wq_g 52 d101_48 (by decide) ?_
    refine wq_s 53 d101_52 rfl rfl (Nat.le_of_ble_eq_true rfl) rfl rfl ?_
    refine wq_k 56 8192 d101_53 (by decide) rfl ?_
    refine wq_s 57 d101_56 rfl rfl (Nat.le_of_ble_eq_true rfl) rfl rfl ?_
    refine pl101 (x := x20) hK hO hD hE pg_M _ _ _ (Nat.le_refl _) hf h32 (fun σl yl wl hl => ?_)
    exact pq101_97 hK (fun z => by
      have h1 := pg_osep hO hD pg_M _ z
      have h2 := ho1 (pg_bk (pg_dsep hD pg_M) z)
      omega) hx20 hl (fun σ' h' => hQ σ' (pc_e h' (by simp only [pg_call, pg_node, pg_seq, pg_tok, pg_ite, pg_nil, if_true, if_false, Bool.false_eq_true, f44]; done) (by simp only [pg_call, pg_node, pg_seq, pg_tok, pg_ite, pg_nil, List.append_assoc, List.nil_append, List.append_nil, List.cons_append, List.singleton_append, List.length_append, List.length_cons, List.length_nil, List.length_singleton, if_true, if_false, Bool.false_eq_true, f44]; done)))
