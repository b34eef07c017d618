theorem d261_0 : decode prog_14_method_67_code 0 = .ok (.aload_n 0, 1) := by decide +kernel
theorem d261_1 : decode prog_14_method_67_code 1 = .ok (.getfield 65, 3) := by decide +kernel
theorem d261_4 : decode prog_14_method_67_code 4 = .ok (.aload_n 0, 1) := by decide +kernel
theorem d261_5 : decode prog_14_method_67_code 5 = .ok (.getfield 438, 3) := by decide +kernel
theorem d261_8 : decode prog_14_method_67_code 8 = .ok (.iconst 1, 1) := by decide +kernel
theorem d261_9 : decode prog_14_method_67_code 9 = .ok (.isub, 1) := by decide +kernel
theorem d261_10 : decode prog_14_method_67_code 10 = .ok (.iaload, 1) := by decide +kernel
theorem d261_11 : decode prog_14_method_67_code 11 = .ok (.istore_n 1, 1) := by decide +kernel
theorem d261_12 : decode prog_14_method_67_code 12 = .ok (.aload_n 0, 1) := by decide +kernel
theorem d261_13 : decode prog_14_method_67_code 13 = .ok (.getfield 68, 3) := by decide +kernel
theorem d261_16 : decode prog_14_method_67_code 16 = .ok (.aload_n 0, 1) := by decide +kernel
theorem d261_17 : decode prog_14_method_67_code 17 = .ok (.getfield 438, 3) := by decide +kernel
theorem d261_20 : decode prog_14_method_67_code 20 = .ok (.iconst 1, 1) := by decide +kernel
theorem d261_21 : decode prog_14_method_67_code 21 = .ok (.isub, 1) := by decide +kernel
theorem d261_22 : decode prog_14_method_67_code 22 = .ok (.iaload, 1) := by decide +kernel
theorem d261_23 : decode prog_14_method_67_code 23 = .ok (.istore_n 2, 1) := by decide +kernel
theorem d261_24 : decode prog_14_method_67_code 24 = .ok (.iload_n 1, 1) := by decide +kernel
theorem d261_25 : decode prog_14_method_67_code 25 = .ok (.iconst 3, 1) := by decide +kernel
theorem d261_26 : decode prog_14_method_67_code 26 = .ok (.if_icmp .eq 8, 3) := by decide +kernel
theorem d261_29 : decode prog_14_method_67_code 29 = .ok (.iload_n 1, 1) := by decide +kernel
theorem d261_30 : decode prog_14_method_67_code 30 = .ok (.iconst 4, 1) := by decide +kernel
theorem d261_31 : decode prog_14_method_67_code 31 = .ok (.if_icmp .ne 7, 3) := by decide +kernel
theorem d261_34 : decode prog_14_method_67_code 34 = .ok (.iconst 1, 1) := by decide +kernel
theorem d261_35 : decode prog_14_method_67_code 35 = .ok (.goto 4, 3) := by decide +kernel
theorem d261_38 : decode prog_14_method_67_code 38 = .ok (.iconst 0, 1) := by decide +kernel
theorem d261_39 : decode prog_14_method_67_code 39 = .ok (.istore_n 3, 1) := by decide +kernel
theorem d261_40 : decode prog_14_method_67_code 40 = .ok (.iload_n 1, 1) := by decide +kernel
theorem d261_41 : decode prog_14_method_67_code 41 = .ok (.iconst 1, 1) := by decide +kernel
theorem d261_42 : decode prog_14_method_67_code 42 = .ok (.if_icmp .ne 34, 3) := by decide +kernel
theorem d261_45 : decode prog_14_method_67_code 45 = .ok (.aload_n 0, 1) := by decide +kernel
theorem d261_46 : decode prog_14_method_67_code 46 = .ok (.bipush 118, 2) := by decide +kernel
theorem d261_48 : decode prog_14_method_67_code 48 = .ok (.invokevirtual 331, 3) := by decide +kernel
theorem d261_51 : decode prog_14_method_67_code 51 = .ok (.ifCond .eq 25, 3) := by decide +kernel
theorem d261_54 : decode prog_14_method_67_code 54 = .ok (.aload_n 0, 1) := by decide +kernel
theorem d261_55 : decode prog_14_method_67_code 55 = .ok (.invokevirtual 334, 3) := by decide +kernel
theorem d261_58 : decode prog_14_method_67_code 58 = .ok (.aload_n 0, 1) := by decide +kernel
theorem d261_59 : decode prog_14_method_67_code 59 = .ok (.dup, 1) := by decide +kernel
theorem d261_60 : decode prog_14_method_67_code 60 = .ok (.getfield 438, 3) := by decide +kernel
theorem d261_63 : decode prog_14_method_67_code 63 = .ok (.iconst 1, 1) := by decide +kernel
theorem d261_64 : decode prog_14_method_67_code 64 = .ok (.isub, 1) := by decide +kernel
theorem d261_65 : decode prog_14_method_67_code 65 = .ok (.putfield 438, 3) := by decide +kernel
theorem d261_68 : decode prog_14_method_67_code 68 = .ok (.aload_n 0, 1) := by decide +kernel
theorem d261_69 : decode prog_14_method_67_code 69 = .ok (.iload_n 2, 1) := by decide +kernel
theorem d261_70 : decode prog_14_method_67_code 70 = .ok (.invokevirtual 447, 3) := by decide +kernel
theorem d261_73 : decode prog_14_method_67_code 73 = .ok (.goto 160, 3) := by decide +kernel
theorem d261_76 : decode prog_14_method_67_code 76 = .ok (.iload_n 1, 1) := by decide +kernel
theorem d261_77 : decode prog_14_method_67_code 77 = .ok (.iconst 1, 1) := by decide +kernel
theorem d261_78 : decode prog_14_method_67_code 78 = .ok (.if_icmp .eq 7, 3) := by decide +kernel
theorem d261_81 : decode prog_14_method_67_code 81 = .ok (.iload_n 3, 1) := by decide +kernel
theorem d261_82 : decode prog_14_method_67_code 82 = .ok (.ifCond .eq 59, 3) := by decide +kernel
theorem d261_85 : decode prog_14_method_67_code 85 = .ok (.aload_n 0, 1) := by decide +kernel
theorem d261_86 : decode prog_14_method_67_code 86 = .ok (.bipush 119, 2) := by decide +kernel
theorem d261_88 : decode prog_14_method_67_code 88 = .ok (.invokevirtual 331, 3) := by decide +kernel
theorem d261_91 : decode prog_14_method_67_code 91 = .ok (.ifCond .eq 50, 3) := by decide +kernel
theorem d261_94 : decode prog_14_method_67_code 94 = .ok (.aload_n 0, 1) := by decide +kernel
theorem d261_95 : decode prog_14_method_67_code 95 = .ok (.getfield 151, 3) := by decide +kernel
theorem d261_98 : decode prog_14_method_67_code 98 = .ok (.istore 4, 2) := by decide +kernel
theorem d261_100 : decode prog_14_method_67_code 100 = .ok (.aload_n 0, 1) := by decide +kernel
theorem d261_101 : decode prog_14_method_67_code 101 = .ok (.invokevirtual 334, 3) := by decide +kernel
theorem d261_104 : decode prog_14_method_67_code 104 = .ok (.aload_n 0, 1) := by decide +kernel
theorem d261_105 : decode prog_14_method_67_code 105 = .ok (.dup, 1) := by decide +kernel
theorem d261_106 : decode prog_14_method_67_code 106 = .ok (.getfield 438, 3) := by decide +kernel
theorem d261_109 : decode prog_14_method_67_code 109 = .ok (.iconst 1, 1) := by decide +kernel
theorem d261_110 : decode prog_14_method_67_code 110 = .ok (.isub, 1) := by decide +kernel
theorem d261_111 : decode prog_14_method_67_code 111 = .ok (.putfield 438, 3) := by decide +kernel
theorem d261_114 : decode prog_14_method_67_code 114 = .ok (.aload_n 0, 1) := by decide +kernel
theorem d261_115 : decode prog_14_method_67_code 115 = .ok (.iload_n 3, 1) := by decide +kernel
theorem d261_116 : decode prog_14_method_67_code 116 = .ok (.ifCond .eq 7, 3) := by decide +kernel
theorem d261_119 : decode prog_14_method_67_code 119 = .ok (.iconst 5, 1) := by decide +kernel
theorem d261_120 : decode prog_14_method_67_code 120 = .ok (.goto 4, 3) := by decide +kernel
theorem d261_123 : decode prog_14_method_67_code 123 = .ok (.iconst 2, 1) := by decide +kernel
theorem d261_124 : decode prog_14_method_67_code 124 = .ok (.iload_n 2, 1) := by decide +kernel
theorem d261_125 : decode prog_14_method_67_code 125 = .ok (.aload_n 0, 1) := by decide +kernel
theorem d261_126 : decode prog_14_method_67_code 126 = .ok (.iload_n 2, 1) := by decide +kernel
theorem d261_127 : decode prog_14_method_67_code 127 = .ok (.bipush 11, 2) := by decide +kernel
theorem d261_129 : decode prog_14_method_67_code 129 = .ok (.iload 4, 2) := by decide +kernel
theorem d261_131 : decode prog_14_method_67_code 131 = .ok (.iconst 0, 1) := by decide +kernel
theorem d261_132 : decode prog_14_method_67_code 132 = .ok (.invokevirtual 349, 3) := by decide +kernel
theorem d261_135 : decode prog_14_method_67_code 135 = .ok (.invokevirtual 441, 3) := by decide +kernel
theorem d261_138 : decode prog_14_method_67_code 138 = .ok (.goto 95, 3) := by decide +kernel
theorem d261_141 : decode prog_14_method_67_code 141 = .ok (.iload_n 3, 1) := by decide +kernel
theorem d261_142 : decode prog_14_method_67_code 142 = .ok (.ifCond .eq 28, 3) := by decide +kernel
theorem d261_145 : decode prog_14_method_67_code 145 = .ok (.aload_n 0, 1) := by decide +kernel
theorem d261_146 : decode prog_14_method_67_code 146 = .ok (.invokevirtual 450, 3) := by decide +kernel
theorem d261_149 : decode prog_14_method_67_code 149 = .ok (.ifCond .eq 21, 3) := by decide +kernel
theorem d261_152 : decode prog_14_method_67_code 152 = .ok (.aload_n 0, 1) := by decide +kernel
theorem d261_153 : decode prog_14_method_67_code 153 = .ok (.dup, 1) := by decide +kernel
theorem d261_154 : decode prog_14_method_67_code 154 = .ok (.getfield 438, 3) := by decide +kernel
theorem d261_157 : decode prog_14_method_67_code 157 = .ok (.iconst 1, 1) := by decide +kernel
theorem d261_158 : decode prog_14_method_67_code 158 = .ok (.isub, 1) := by decide +kernel
theorem d261_159 : decode prog_14_method_67_code 159 = .ok (.putfield 438, 3) := by decide +kernel
theorem d261_162 : decode prog_14_method_67_code 162 = .ok (.aload_n 0, 1) := by decide +kernel
theorem d261_163 : decode prog_14_method_67_code 163 = .ok (.iload_n 2, 1) := by decide +kernel
theorem d261_164 : decode prog_14_method_67_code 164 = .ok (.invokevirtual 453, 3) := by decide +kernel
theorem d261_167 : decode prog_14_method_67_code 167 = .ok (.goto 66, 3) := by decide +kernel
theorem d261_170 : decode prog_14_method_67_code 170 = .ok (.iload_n 1, 1) := by decide +kernel
theorem d261_171 : decode prog_14_method_67_code 171 = .ok (.iconst 1, 1) := by decide +kernel
theorem d261_172 : decode prog_14_method_67_code 172 = .ok (.if_icmp .eq 8, 3) := by decide +kernel
theorem d261_175 : decode prog_14_method_67_code 175 = .ok (.iload_n 1, 1) := by decide +kernel
theorem d261_176 : decode prog_14_method_67_code 176 = .ok (.iconst 2, 1) := by decide +kernel
theorem d261_177 : decode prog_14_method_67_code 177 = .ok (.if_icmp .ne 12, 3) := by decide +kernel
theorem d261_180 : decode prog_14_method_67_code 180 = .ok (.aload_n 0, 1) := by decide +kernel
theorem d261_181 : decode prog_14_method_67_code 181 = .ok (.bipush 120, 2) := by decide +kernel
theorem d261_183 : decode prog_14_method_67_code 183 = .ok (.invokevirtual 331, 3) := by decide +kernel
theorem d261_186 : decode prog_14_method_67_code 186 = .ok (.ifCond .ne 36, 3) := by decide +kernel
theorem d261_189 : decode prog_14_method_67_code 189 = .ok (.iload_n 3, 1) := by decide +kernel
theorem d261_190 : decode prog_14_method_67_code 190 = .ok (.ifCond .ne 8, 3) := by decide +kernel
theorem d261_193 : decode prog_14_method_67_code 193 = .ok (.iload_n 1, 1) := by decide +kernel
theorem d261_194 : decode prog_14_method_67_code 194 = .ok (.iconst 5, 1) := by decide +kernel
theorem d261_195 : decode prog_14_method_67_code 195 = .ok (.if_icmp .ne 12, 3) := by decide +kernel
theorem d261_198 : decode prog_14_method_67_code 198 = .ok (.aload_n 0, 1) := by decide +kernel
theorem d261_199 : decode prog_14_method_67_code 199 = .ok (.bipush 122, 2) := by decide +kernel
theorem d261_201 : decode prog_14_method_67_code 201 = .ok (.invokevirtual 331, 3) := by decide +kernel
theorem d261_204 : decode prog_14_method_67_code 204 = .ok (.ifCond .ne 18, 3) := by decide +kernel
theorem d261_207 : decode prog_14_method_67_code 207 = .ok (.iload_n 1, 1) := by decide +kernel
theorem d261_208 : decode prog_14_method_67_code 208 = .ok (.bipush 6, 2) := by decide +kernel
theorem d261_210 : decode prog_14_method_67_code 210 = .ok (.if_icmp .ne 19, 3) := by decide +kernel
theorem d261_213 : decode prog_14_method_67_code 213 = .ok (.aload_n 0, 1) := by decide +kernel
theorem d261_214 : decode prog_14_method_67_code 214 = .ok (.bipush 127, 2) := by decide +kernel
theorem d261_216 : decode prog_14_method_67_code 216 = .ok (.invokevirtual 331, 3) := by decide +kernel
theorem d261_219 : decode prog_14_method_67_code 219 = .ok (.ifCond .eq 10, 3) := by decide +kernel
theorem d261_222 : decode prog_14_method_67_code 222 = .ok (.aload_n 0, 1) := by decide +kernel
theorem d261_223 : decode prog_14_method_67_code 223 = .ok (.invokevirtual 456, 3) := by decide +kernel
theorem d261_226 : decode prog_14_method_67_code 226 = .ok (.goto 7, 3) := by decide +kernel
theorem d261_229 : decode prog_14_method_67_code 229 = .ok (.aload_n 0, 1) := by decide +kernel
theorem d261_230 : decode prog_14_method_67_code 230 = .ok (.invokevirtual 337, 3) := by decide +kernel
theorem d261_233 : decode prog_14_method_67_code 233 = .ok (.return_, 1) := by decide +kernel
theorem m261 : pm_m 261 = some (⟨"TypeRulesModel", "goOnIn", "()V"⟩, prog_14_method_67_code, 5, none, 10, 0, 11) := rfl
theorem d241_0 : decode prog_14_method_68_code 0 = .ok (.aload_n 0, 1) := by decide +kernel
theorem d241_1 : decode prog_14_method_68_code 1 = .ok (.getfield 151, 3) := by decide +kernel
theorem d241_4 : decode prog_14_method_68_code 4 = .ok (.istore_n 2, 1) := by decide +kernel
theorem d241_5 : decode prog_14_method_68_code 5 = .ok (.aload_n 0, 1) := by decide +kernel
theorem d241_6 : decode prog_14_method_68_code 6 = .ok (.bipush 59, 2) := by decide +kernel
theorem d241_8 : decode prog_14_method_68_code 8 = .ok (.invokevirtual 346, 3) := by decide +kernel
theorem d241_11 : decode prog_14_method_68_code 11 = .ok (.ifCond .eq 10, 3) := by decide +kernel
theorem d241_14 : decode prog_14_method_68_code 14 = .ok (.aload_n 0, 1) := by decide +kernel
theorem d241_15 : decode prog_14_method_68_code 15 = .ok (.invokevirtual 334, 3) := by decide +kernel
theorem d241_18 : decode prog_14_method_68_code 18 = .ok (.goto 154, 3) := by decide +kernel
theorem d241_21 : decode prog_14_method_68_code 21 = .ok (.aload_n 0, 1) := by decide +kernel
theorem d241_22 : decode prog_14_method_68_code 22 = .ok (.iconst 1, 1) := by decide +kernel
theorem d241_23 : decode prog_14_method_68_code 23 = .ok (.invokevirtual 331, 3) := by decide +kernel
theorem d241_26 : decode prog_14_method_68_code 26 = .ok (.ifCond .eq 11, 3) := by decide +kernel
theorem d241_29 : decode prog_14_method_68_code 29 = .ok (.aload_n 0, 1) := by decide +kernel
theorem d241_30 : decode prog_14_method_68_code 30 = .ok (.iload_n 1, 1) := by decide +kernel
theorem d241_31 : decode prog_14_method_68_code 31 = .ok (.invokevirtual 459, 3) := by decide +kernel
theorem d241_34 : decode prog_14_method_68_code 34 = .ok (.goto 138, 3) := by decide +kernel
theorem d241_37 : decode prog_14_method_68_code 37 = .ok (.aload_n 0, 1) := by decide +kernel
theorem d241_38 : decode prog_14_method_68_code 38 = .ok (.bipush 116, 2) := by decide +kernel
theorem d241_40 : decode prog_14_method_68_code 40 = .ok (.invokevirtual 331, 3) := by decide +kernel
theorem d241_43 : decode prog_14_method_68_code 43 = .ok (.ifCond .eq 25, 3) := by decide +kernel
theorem d241_46 : decode prog_14_method_68_code 46 = .ok (.aload_n 0, 1) := by decide +kernel
theorem d241_47 : decode prog_14_method_68_code 47 = .ok (.iload_n 1, 1) := by decide +kernel
theorem d241_48 : decode prog_14_method_68_code 48 = .ok (.bipush 15, 2) := by decide +kernel
theorem d241_50 : decode prog_14_method_68_code 50 = .ok (.iload_n 2, 1) := by decide +kernel
theorem d241_51 : decode prog_14_method_68_code 51 = .ok (.iconst 0, 1) := by decide +kernel
theorem d241_52 : decode prog_14_method_68_code 52 = .ok (.invokevirtual 349, 3) := by decide +kernel
theorem d241_55 : decode prog_14_method_68_code 55 = .ok (.istore_n 3, 1) := by decide +kernel
theorem d241_56 : decode prog_14_method_68_code 56 = .ok (.aload_n 0, 1) := by decide +kernel
theorem d241_57 : decode prog_14_method_68_code 57 = .ok (.invokevirtual 400, 3) := by decide +kernel
theorem d241_60 : decode prog_14_method_68_code 60 = .ok (.aload_n 0, 1) := by decide +kernel
theorem d241_61 : decode prog_14_method_68_code 61 = .ok (.iload_n 3, 1) := by decide +kernel
theorem d241_62 : decode prog_14_method_68_code 62 = .ok (.invokevirtual 447, 3) := by decide +kernel
theorem d241_65 : decode prog_14_method_68_code 65 = .ok (.goto 107, 3) := by decide +kernel
theorem d241_68 : decode prog_14_method_68_code 68 = .ok (.aload_n 0, 1) := by decide +kernel
theorem d241_69 : decode prog_14_method_68_code 69 = .ok (.bipush 121, 2) := by decide +kernel
theorem d241_71 : decode prog_14_method_68_code 71 = .ok (.invokevirtual 331, 3) := by decide +kernel
theorem d241_74 : decode prog_14_method_68_code 74 = .ok (.ifCond .eq 45, 3) := by decide +kernel
theorem d241_77 : decode prog_14_method_68_code 77 = .ok (.aload_n 0, 1) := by decide +kernel
theorem d241_78 : decode prog_14_method_68_code 78 = .ok (.iload_n 1, 1) := by decide +kernel
theorem d241_79 : decode prog_14_method_68_code 79 = .ok (.bipush 16, 2) := by decide +kernel
theorem d241_81 : decode prog_14_method_68_code 81 = .ok (.iload_n 2, 1) := by decide +kernel
theorem d241_82 : decode prog_14_method_68_code 82 = .ok (.iconst 0, 1) := by decide +kernel
theorem d241_83 : decode prog_14_method_68_code 83 = .ok (.invokevirtual 349, 3) := by decide +kernel
theorem d241_86 : decode prog_14_method_68_code 86 = .ok (.istore_n 3, 1) := by decide +kernel
theorem d241_87 : decode prog_14_method_68_code 87 = .ok (.aload_n 0, 1) := by decide +kernel
theorem d241_88 : decode prog_14_method_68_code 88 = .ok (.invokevirtual 400, 3) := by decide +kernel
theorem d241_91 : decode prog_14_method_68_code 91 = .ok (.aload_n 0, 1) := by decide +kernel
theorem d241_92 : decode prog_14_method_68_code 92 = .ok (.getfield 135, 3) := by decide +kernel
theorem d241_95 : decode prog_14_method_68_code 95 = .ok (.ifCond .ne 8, 3) := by decide +kernel
theorem d241_98 : decode prog_14_method_68_code 98 = .ok (.aload_n 0, 1) := by decide +kernel
theorem d241_99 : decode prog_14_method_68_code 99 = .ok (.iload_n 3, 1) := by decide +kernel
theorem d241_100 : decode prog_14_method_68_code 100 = .ok (.invokevirtual 428, 3) := by decide +kernel
theorem d241_103 : decode prog_14_method_68_code 103 = .ok (.aload_n 0, 1) := by decide +kernel
theorem d241_104 : decode prog_14_method_68_code 104 = .ok (.bipush 115, 2) := by decide +kernel
theorem d241_106 : decode prog_14_method_68_code 106 = .ok (.invokevirtual 340, 3) := by decide +kernel
theorem d241_109 : decode prog_14_method_68_code 109 = .ok (.aload_n 0, 1) := by decide +kernel
theorem d241_110 : decode prog_14_method_68_code 110 = .ok (.iconst 3, 1) := by decide +kernel
theorem d241_111 : decode prog_14_method_68_code 111 = .ok (.iload_n 3, 1) := by decide +kernel
theorem d241_112 : decode prog_14_method_68_code 112 = .ok (.iconst (-1), 1) := by decide +kernel
theorem d241_113 : decode prog_14_method_68_code 113 = .ok (.invokevirtual 441, 3) := by decide +kernel
theorem d241_116 : decode prog_14_method_68_code 116 = .ok (.goto 56, 3) := by decide +kernel
theorem d241_119 : decode prog_14_method_68_code 119 = .ok (.aload_n 0, 1) := by decide +kernel
theorem d241_120 : decode prog_14_method_68_code 120 = .ok (.bipush 123, 2) := by decide +kernel
theorem d241_122 : decode prog_14_method_68_code 122 = .ok (.invokevirtual 331, 3) := by decide +kernel
theorem d241_125 : decode prog_14_method_68_code 125 = .ok (.ifCond .eq 11, 3) := by decide +kernel
theorem d241_128 : decode prog_14_method_68_code 128 = .ok (.aload_n 0, 1) := by decide +kernel
theorem d241_129 : decode prog_14_method_68_code 129 = .ok (.iload_n 1, 1) := by decide +kernel
theorem d241_130 : decode prog_14_method_68_code 130 = .ok (.invokevirtual 462, 3) := by decide +kernel
theorem d241_133 : decode prog_14_method_68_code 133 = .ok (.goto 39, 3) := by decide +kernel
theorem d241_136 : decode prog_14_method_68_code 136 = .ok (.aload_n 0, 1) := by decide +kernel
theorem d241_137 : decode prog_14_method_68_code 137 = .ok (.iload_n 1, 1) := by decide +kernel
theorem d241_138 : decode prog_14_method_68_code 138 = .ok (.aload_n 0, 1) := by decide +kernel
theorem d241_139 : decode prog_14_method_68_code 139 = .ok (.sipush 128, 3) := by decide +kernel
theorem d241_142 : decode prog_14_method_68_code 142 = .ok (.invokevirtual 331, 3) := by decide +kernel
theorem d241_145 : decode prog_14_method_68_code 145 = .ok (.ifCond .eq 8, 3) := by decide +kernel
theorem d241_148 : decode prog_14_method_68_code 148 = .ok (.bipush 20, 2) := by decide +kernel
theorem d241_150 : decode prog_14_method_68_code 150 = .ok (.goto 5, 3) := by decide +kernel
theorem d241_153 : decode prog_14_method_68_code 153 = .ok (.bipush 21, 2) := by decide +kernel
theorem d241_155 : decode prog_14_method_68_code 155 = .ok (.iload_n 2, 1) := by decide +kernel
theorem d241_156 : decode prog_14_method_68_code 156 = .ok (.iconst 0, 1) := by decide +kernel
theorem d241_157 : decode prog_14_method_68_code 157 = .ok (.invokevirtual 349, 3) := by decide +kernel
theorem d241_160 : decode prog_14_method_68_code 160 = .ok (.pop, 1) := by decide +kernel
theorem d241_161 : decode prog_14_method_68_code 161 = .ok (.aload_n 0, 1) := by decide +kernel
theorem d241_162 : decode prog_14_method_68_code 162 = .ok (.invokevirtual 334, 3) := by decide +kernel
theorem d241_165 : decode prog_14_method_68_code 165 = .ok (.aload_n 0, 1) := by decide +kernel
theorem d241_166 : decode prog_14_method_68_code 166 = .ok (.sipush 259, 3) := by decide +kernel
theorem d241_169 : decode prog_14_method_68_code 169 = .ok (.invokevirtual 340, 3) := by decide +kernel
theorem d241_172 : decode prog_14_method_68_code 172 = .ok (.return_, 1) := by decide +kernel
theorem m241 : pm_m 241 = some (⟨"TypeRulesModel", "statement", "(I)V"⟩, prog_14_method_68_code, 4, none, 10, 1, 11) := rfl
/-! one turn of the statements' loop -/
theorem xs_obq {t : Nat → Nat} {M n : Nat} {σ σ1 σp : pm_S} {h : rp_H} {nd nn : Nat} {l : List pg_N} {w k : Nat} {σ2 : pm_S} {h2 : rp_H} {c2 : pg_C} {b2 : Nat} (k1 : rp_K σ σ1) (q : xs_q σ1 σp) (nq : xs_N σ1 k σp) (o : xs_ob t M n σp h nd nn l w k σ2 h2 c2 b2) : xs_ob t M n σ h nd nn l w k σ2 h2 c2 b2 := by
  obtain ⟨σx, hx, σc, y, e, n1, r⟩ := o
  refine ⟨σx, hx, σc, y, ?_, xs_Nt (Nat.le_refl _) (xs_Nt (Nat.le_refl _) (xs_Nd (rp_Df k1.1)) nq) n1, r⟩
  have w1 := (rp_Eww (rp_Ek (t := t) (M := M) (n := n) (h := h) (to := nd) k1))
  have w2 := (xs_Eq (t := t) (M := M) (n := n) (h := h) (to := nd) q)
  refine ⟨rp_Wwt w1.1 (rp_Wwt w2.1 e.1), fun z => ?_⟩
  obtain ⟨e1, L, e2, f1, f2, f3, f4, f5, f6, f7⟩ := e.2 z
  have z2 := e.1.2.2.1 z
  have z1 := w2.1.2.2.1 z2
  obtain ⟨_, L1, g1, a1, a2, a3, a4, a5⟩ := w1.2 z1
  obtain ⟨_, L2, g2, b1, b2, b3, b4, b5⟩ := w2.2 z2
  exact ⟨e1, L, e2, f1, f2, f3, fun x hx q hq => f4 x hx q (b4 x hx q (a4 x hx q hq)), f5, f6, f7⟩
theorem xs264 {d : Nat} {Q : Option Value → pm_S → Prop} {t : Nat → Nat} {M n : Nat} {σ : pm_S} {h : rp_H} {c : pg_C} {s k w : Nat} (hN : rp_n t M n) (h34 : σ.1 10 34 = nI (k + 1)) (hk : k + 1 ≤ c.2.2) (hS : rp_S t M n σ c h s) (he : ∃ e, xs_ew w e ∧ pg_is (pt_T t M n) e c = true) (hQ : ∀ e, xs_ew w e → pg_is (pt_T t M n) e c = true → ∀ σ2, rp_S t M n σ2 (pg_exp (pt_T t M n) 57 (pg_dec (pg_exp (pt_T t M n) e c))) h s → (∀ to, rp_Ew t M n σ h σ2 h to []) → xs_N σ k σ2 → σ2.1 10 34 = nI k → Q none σ2) : pm_call pm_Y0 (d + 8) 264 [.ref 10] σ Q := by
  obtain ⟨e, a1, a2⟩ := he
  exact rp264 (w := 0) hN h34 hk a2 (by unfold xs_ew at a1; omega) hS (hQ e a1 a2)
theorem xs261 {d : Nat} {Q : Option Value → pm_S → Prop} {t : Nat → Nat} {M n : Nat} {σ : pm_S} {c : pg_C} {h : rp_H} {s k w nd : Nat} (hN : rp_n t M n) (hc1 : 1 ≤ c.1) (G : xs_G t M n σ c h s k w nd)
  (A2 : w = 1 → pg_is (pt_T t M n) 18 c = true → ∀ σ2 h2 b2, xs_ob t M n σ h nd nd (pg_E (pt_T t M n) (pg_stp c)).2 1 k σ2 h2 (pg_exp (pt_T t M n) 17 (pg_E (pt_T t M n) (pg_stp c)).1) b2 → rp_S t M n σ2 (pg_exp (pt_T t M n) 17 (pg_E (pt_T t M n) (pg_stp c)).1) h2 (s + 8) → Q none σ2)
  (A3 : (w = 1 ∨ w = 3 ∨ w = 4) → pg_is (pt_T t M n) 19 c = true → ∀ σ2 h2 b2, xs_ob t M n σ h nd nd [] (if w = 1 then 2 else 5) k σ2 h2 (pg_stp c) b2 → rp_S t M n σ2 (pg_stp c) h2 (s + 8) → Q none σ2)
  (A4 : ∀ e, xs_ew w e → pg_is (pt_T t M n) e c = true → ∀ σ2, rp_S t M n σ2 (pg_exp (pt_T t M n) 57 (pg_dec (pg_exp (pt_T t M n) e c))) h (s + 8) → (∀ to, rp_Ew t M n σ h σ2 h to []) → xs_N σ k σ2 → σ2.1 10 34 = nI k → Q none σ2)
  (A5 : ¬ (w = 1 ∧ pg_is (pt_T t M n) 18 c = true) → ¬ ((w = 1 ∨ w = 3 ∨ w = 4) ∧ pg_is (pt_T t M n) 19 c = true) → ¬ ((w = 3 ∨ w = 4) ∧ pg_any (pt_T t M n) [42, 61, 35, 36] c = true) → (∀ e, xs_ew w e → pg_is (pt_T t M n) e c = false) → ∀ σ2, rp_S t M n σ2 (pg_stop c) h (s + 8) → (∀ to, rp_E t M n σ h σ2 h to []) → Q none σ2)
  (A7 : (w = 3 ∨ w = 4) → pg_any (pt_T t M n) [42, 61, 35, 36] c = true → ∀ σp σa y σ2 h2 b2, xs_q σ σp → xs_N σ k σp → rp_M σp h.1 σa (nI 17) y 0 → (σ2.1 10 6 = 0 → y = nI (pg_pl (pt_T t M n) c)) → xs_ob t M n σa (rp_in h nd) h.1 nd (pg_sep (pt_T t M n) (pg_range (pt_T t M n)) pg_M c).2 4 k σ2 h2 (pg_exp (pt_T t M n) 58 (pg_sep (pt_T t M n) (pg_range (pt_T t M n)) pg_M c).1) b2 → rp_S t M n σ2 (pg_exp (pt_T t M n) 58 (pg_sep (pt_T t M n) (pg_range (pt_T t M n)) pg_M c).1) h2 (s + 8) → Q none σ2) : pm_call pm_Y0 (d + 15) 261 [.ref 10] σ Q := by
  obtain ⟨hs, hS, z, ⟨h34, h61, h62⟩, hnd, hko, hbg, w1, w6, _⟩ := G
  have hl := rp_lv hS z
  have h60 := (hS.1.2.2.1 hl).2.2.2.2.2.2.2
  have ew := nI_toInt (n := w) (by omega)
  have ek := nI_toInt (n := k) (by omega)
  have ck := nI_clamp (n := k) (by omega)
  have hpl := rp_pl hS z
  refine wq_m m261 (Nat.le_of_ble_eq_true rfl) (by decide) rfl ?_
  refine wq_l 1 d261_0 rfl rfl rfl rfl ?_
  refine wq_gr (ci := 10) (j := 31) (q := 61) 4 d261_1 rfl rfl rfl rfl ?_
  refine wq_l 5 d261_4 rfl rfl rfl rfl ?_
  refine wq_gi (ci := 10) (j := 34) 8 d261_5 rfl rfl rfl rfl ?_
  first | rw [h34] | rw [show σ1.1 10 34 = nI (k + 1) from (xs_k34 k1).trans h34]
  refine wq_k 9 1 d261_8 (by decide) rfl ?_
  refine wq_a 10 d261_9 rfl rfl ?_
  rw [nI_pred]
  refine wq_al 11 d261_10 rfl rfl rfl (vp_in_iff.mpr (by simp only [i_lt, i_le, i_eq, ne_eq, Int32.reduceToInt, b2_0, b2_1, decide_eq_true_eq, decide_eq_false_iff_not, Bool.not_eq_true, Bool.not_eq_false, ek] at * <;> omega)) ?_
  rw [ck, h61]
  refine wq_s 12 d261_11 rfl rfl (Nat.le_of_ble_eq_true rfl) rfl rfl ?_
  refine wq_l 13 d261_12 rfl rfl rfl rfl ?_
  refine wq_gr (ci := 10) (j := 32) (q := 62) 16 d261_13 rfl rfl rfl rfl ?_
  refine wq_l 17 d261_16 rfl rfl rfl rfl ?_
  refine wq_gi (ci := 10) (j := 34) 20 d261_17 rfl rfl rfl rfl ?_
  first | rw [h34] | rw [show σ1.1 10 34 = nI (k + 1) from (xs_k34 k1).trans h34]
  refine wq_k 21 1 d261_20 (by decide) rfl ?_
  refine wq_a 22 d261_21 rfl rfl ?_
  rw [nI_pred]
  refine wq_al 23 d261_22 rfl rfl rfl (vp_in_iff.mpr (by simp only [i_lt, i_le, i_eq, ne_eq, Int32.reduceToInt, b2_0, b2_1, decide_eq_true_eq, decide_eq_false_iff_not, Bool.not_eq_true, Bool.not_eq_false, ek] at * <;> omega)) ?_
  rw [ck, h62]
  refine wq_s 24 d261_23 rfl rfl (Nat.le_of_ble_eq_true rfl) rfl rfl ?_
  refine wq_l 25 d261_24 rfl rfl rfl rfl ?_
  refine wq_k 26 3 d261_25 (by decide) rfl ?_
  refine wq_b 34 29 d261_26 rfl (by decide) rfl (fun c26 => ?_) (fun c26 => ?_)
  · -- pc 34
    have w26 : w = 3 := by have y := c26; simp only [i_lt, i_le, i_eq, ne_eq, Int32.reduceToInt, b2_0, b2_1, decide_eq_true_eq, decide_eq_false_iff_not, Bool.not_eq_true, Bool.not_eq_false, ew] at y; omega
    refine wq_k 35 1 d261_34 (by decide) rfl ?_
    refine wq_g 39 d261_35 (by decide) ?_
    refine wq_s 40 d261_39 rfl rfl (Nat.le_of_ble_eq_true rfl) rfl rfl ?_
    refine wq_l 41 d261_40 rfl rfl rfl rfl ?_
    refine wq_k 42 1 d261_41 (by decide) rfl ?_
    refine wq_b 76 45 d261_42 rfl (by decide) rfl (fun c42 => ?_) (fun c42 => ?_)
    · -- pc 76
      have w42 : ¬ w = 1 := by have y := c42; simp only [i_lt, i_le, i_eq, ne_eq, Int32.reduceToInt, b2_0, b2_1, decide_eq_true_eq, decide_eq_false_iff_not, Bool.not_eq_true, Bool.not_eq_false, ew] at y; omega
      refine wq_l 77 d261_76 rfl rfl rfl rfl ?_
      refine wq_k 78 1 d261_77 (by decide) rfl ?_
      refine wq_b 85 81 d261_78 rfl (by decide) rfl (fun c78 => ?_) (fun c78 => ?_)
      · -- pc 85
        have w78 : w = 1 := by have y := c78; simp only [i_lt, i_le, i_eq, ne_eq, Int32.reduceToInt, b2_0, b2_1, decide_eq_true_eq, decide_eq_false_iff_not, Bool.not_eq_true, Bool.not_eq_false, ew] at y; omega
        exfalso; omega
      · -- pc 81
        have w78 : ¬ w = 1 := by have y := c78; simp only [i_lt, i_le, i_eq, ne_eq, Int32.reduceToInt, b2_0, b2_1, decide_eq_true_eq, decide_eq_false_iff_not, Bool.not_eq_true, Bool.not_eq_false, ew] at y; omega
        refine wq_l 82 d261_81 rfl rfl rfl rfl ?_
        refine wq_b 141 85 d261_82 rfl (by decide) rfl (fun c82 => ?_) (fun c82 => ?_)
        · -- pc 141
          skip
          exact absurd c82 (by decide)
        · -- pc 85
          skip
          refine wq_l 86 d261_85 rfl rfl rfl rfl ?_
          refine wq_k 88 119 d261_86 (by decide) rfl ?_
          refine wq_v 91 [_] d261_88 rfl rfl m224 rfl rfl (Nat.le_of_ble_eq_true rfl) rfl (rp_is (k := 19) hN (by decide) (by decide) hS ?_)
          refine wq_b 141 94 d261_91 rfl (by decide) rfl (fun c91 => ?_) (fun c91 => ?_)
          · -- pc 141
            have f91 := b2z c91
            refine wq_l 142 d261_141 rfl rfl rfl rfl ?_
            refine wq_b 170 145 d261_142 rfl (by decide) rfl (fun c142 => ?_) (fun c142 => ?_)
            · -- pc 170
              skip
              exact absurd c142 (by decide)
            · -- pc 145
              skip
              refine wq_l 146 d261_145 rfl rfl rfl rfl ?_
              refine wq_v 149 [] d261_146 rfl rfl m262 rfl rfl (Nat.le_of_ble_eq_true rfl) rfl (rp262 hN hS ?_)
              refine wq_b 170 152 d261_149 rfl (by decide) rfl (fun c149 => ?_) (fun c149 => ?_)
              · -- pc 170
                have f149 := b2z c149
                refine wq_l 171 d261_170 rfl rfl rfl rfl ?_
                refine wq_k 172 1 d261_171 (by decide) rfl ?_
                refine wq_b 180 175 d261_172 rfl (by decide) rfl (fun c172 => ?_) (fun c172 => ?_)
                · -- pc 180
                  have w172 : w = 1 := by have y := c172; simp only [i_lt, i_le, i_eq, ne_eq, Int32.reduceToInt, b2_0, b2_1, decide_eq_true_eq, decide_eq_false_iff_not, Bool.not_eq_true, Bool.not_eq_false, ew] at y; omega
                  exfalso; omega
                · -- pc 175
                  have w172 : ¬ w = 1 := by have y := c172; simp only [i_lt, i_le, i_eq, ne_eq, Int32.reduceToInt, b2_0, b2_1, decide_eq_true_eq, decide_eq_false_iff_not, Bool.not_eq_true, Bool.not_eq_false, ew] at y; omega
                  refine wq_l 176 d261_175 rfl rfl rfl rfl ?_
                  refine wq_k 177 2 d261_176 (by decide) rfl ?_
                  refine wq_b 189 180 d261_177 rfl (by decide) rfl (fun c177 => ?_) (fun c177 => ?_)
                  · -- pc 189
                    have w177 : ¬ w = 2 := by have y := c177; simp only [i_lt, i_le, i_eq, ne_eq, Int32.reduceToInt, b2_0, b2_1, decide_eq_true_eq, decide_eq_false_iff_not, Bool.not_eq_true, Bool.not_eq_false, ew] at y; omega
                    refine wq_l 190 d261_189 rfl rfl rfl rfl ?_
                    refine wq_b 198 193 d261_190 rfl (by decide) rfl (fun c190 => ?_) (fun c190 => ?_)
                    · -- pc 198
                      skip
                      refine wq_l 199 d261_198 rfl rfl rfl rfl ?_
                      refine wq_k 201 122 d261_199 (by decide) rfl ?_
                      refine wq_v 204 [_] d261_201 rfl rfl m224 rfl rfl (Nat.le_of_ble_eq_true rfl) rfl (rp_is (k := 22) hN (by decide) (by decide) hS ?_)
                      refine wq_b 222 207 d261_204 rfl (by decide) rfl (fun c204 => ?_) (fun c204 => ?_)
                      · -- pc 222
                        have f204 := b2n c204
                        refine wq_l 223 d261_222 rfl rfl rfl rfl ?_
                        refine wq_v 226 [] d261_223 rfl rfl m264 rfl rfl (Nat.le_of_ble_eq_true rfl) rfl (xs264 (w := w) hN h34 hko hS (by first | exact ⟨20, by unfold xs_ew; omega, f186⟩ | exact ⟨22, by unfold xs_ew; omega, f204⟩ | exact ⟨27, by unfold xs_ew; omega, f219⟩) (fun e a1 a2 σ2 b1 b2 b3 b4 => ?_))
                        have fin := A4 e a1 a2 σ2 (rp_Se b1 rfl (by omega)) b2 b3 b4
                        refine wq_g 233 d261_226 (by decide) ?_
                        refine wq_rv d261_233 ?_
                        exact fin
                      · -- pc 207
                        have f204 := b2y c204
                        refine wq_l 208 d261_207 rfl rfl rfl rfl ?_
                        refine wq_k 210 6 d261_208 (by decide) rfl ?_
                        refine wq_b 229 213 d261_210 rfl (by decide) rfl (fun c210 => ?_) (fun c210 => ?_)
                        · -- pc 229
                          have w210 : ¬ w = 6 := by have y := c210; simp only [i_lt, i_le, i_eq, ne_eq, Int32.reduceToInt, b2_0, b2_1, decide_eq_true_eq, decide_eq_false_iff_not, Bool.not_eq_true, Bool.not_eq_false, ew] at y; omega
                          refine wq_l 230 d261_229 rfl rfl rfl rfl ?_
                          refine wq_v 233 [] d261_230 rfl rfl m230 rfl rfl (Nat.le_of_ble_eq_true rfl) rfl (rp_ref hN hS (fun σ1 h1 k1 => ?_))
                          have fin := A5 (fun y => by first | (exfalso; omega) | exact absurd (f51.symm.trans y.2) (by decide)) (fun y => by first | (exfalso; omega) | exact absurd (f91.symm.trans y.2) (by decide)) (fun y => by first | (exfalso; omega) | exact absurd (f149.symm.trans y.2) (by decide)) (fun e he => by
                              unfold xs_ew at he
                              rcases he with ⟨e1, e2⟩ | ⟨e1, e2⟩ | ⟨e1, e2⟩
                              · first | (exfalso; omega) | (rw [e2]; exact f186)
                              · first | (exfalso; omega) | (rw [e2]; exact f204)
                              · first | (exfalso; omega) | (rw [e2]; exact f219)) _ (rp_Se h1 rfl (by omega)) (fun to => rp_Ek k1)
                          refine wq_rv d261_233 ?_
                          exact fin
                        · -- pc 213
                          have w210 : w = 6 := by have y := c210; simp only [i_lt, i_le, i_eq, ne_eq, Int32.reduceToInt, b2_0, b2_1, decide_eq_true_eq, decide_eq_false_iff_not, Bool.not_eq_true, Bool.not_eq_false, ew] at y; omega
                          refine wq_l 214 d261_213 rfl rfl rfl rfl ?_
                          refine wq_k 216 127 d261_214 (by decide) rfl ?_
                          refine wq_v 219 [_] d261_216 rfl rfl m224 rfl rfl (Nat.le_of_ble_eq_true rfl) rfl (rp_is (k := 27) hN (by decide) (by decide) hS ?_)
                          refine wq_b 229 222 d261_219 rfl (by decide) rfl (fun c219 => ?_) (fun c219 => ?_)
                          · -- pc 229
                            have f219 := b2z c219
                            refine wq_l 230 d261_229 rfl rfl rfl rfl ?_
                            refine wq_v 233 [] d261_230 rfl rfl m230 rfl rfl (Nat.le_of_ble_eq_true rfl) rfl (rp_ref hN hS (fun σ1 h1 k1 => ?_))
                            have fin := A5 (fun y => by first | (exfalso; omega) | exact absurd (f51.symm.trans y.2) (by decide)) (fun y => by first | (exfalso; omega) | exact absurd (f91.symm.trans y.2) (by decide)) (fun y => by first | (exfalso; omega) | exact absurd (f149.symm.trans y.2) (by decide)) (fun e he => by
                                unfold xs_ew at he
                                rcases he with ⟨e1, e2⟩ | ⟨e1, e2⟩ | ⟨e1, e2⟩
                                · first | (exfalso; omega) | (rw [e2]; exact f186)
                                · first | (exfalso; omega) | (rw [e2]; exact f204)
                                · first | (exfalso; omega) | (rw [e2]; exact f219)) _ (rp_Se h1 rfl (by omega)) (fun to => rp_Ek k1)
                            refine wq_rv d261_233 ?_
                            exact fin
                          · -- pc 222
                            have f219 := b2n c219
                            refine wq_l 223 d261_222 rfl rfl rfl rfl ?_
                            refine wq_v 226 [] d261_223 rfl rfl m264 rfl rfl (Nat.le_of_ble_eq_true rfl) rfl (xs264 (w := w) hN h34 hko hS (by first | exact ⟨20, by unfold xs_ew; omega, f186⟩ | exact ⟨22, by unfold xs_ew; omega, f204⟩ | exact ⟨27, by unfold xs_ew; omega, f219⟩) (fun e a1 a2 σ2 b1 b2 b3 b4 => ?_))
                            have fin := A4 e a1 a2 σ2 (rp_Se b1 rfl (by omega)) b2 b3 b4
                            refine wq_g 233 d261_226 (by decide) ?_
                            refine wq_rv d261_233 ?_
                            exact fin
                    · -- pc 193
                      skip
                      exact absurd (by decide) c190
                  · -- pc 180
                    have w177 : w = 2 := by have y := c177; simp only [i_lt, i_le, i_eq, ne_eq, Int32.reduceToInt, b2_0, b2_1, decide_eq_true_eq, decide_eq_false_iff_not, Bool.not_eq_true, Bool.not_eq_false, ew] at y; omega
                    refine wq_l 181 d261_180 rfl rfl rfl rfl ?_
                    refine wq_k 183 120 d261_181 (by decide) rfl ?_
                    refine wq_v 186 [_] d261_183 rfl rfl m224 rfl rfl (Nat.le_of_ble_eq_true rfl) rfl (rp_is (k := 20) hN (by decide) (by decide) hS ?_)
                    refine wq_b 222 189 d261_186 rfl (by decide) rfl (fun c186 => ?_) (fun c186 => ?_)
                    · -- pc 222
                      have f186 := b2n c186
                      refine wq_l 223 d261_222 rfl rfl rfl rfl ?_
                      refine wq_v 226 [] d261_223 rfl rfl m264 rfl rfl (Nat.le_of_ble_eq_true rfl) rfl (xs264 (w := w) hN h34 hko hS (by first | exact ⟨20, by unfold xs_ew; omega, f186⟩ | exact ⟨22, by unfold xs_ew; omega, f204⟩ | exact ⟨27, by unfold xs_ew; omega, f219⟩) (fun e a1 a2 σ2 b1 b2 b3 b4 => ?_))
                      have fin := A4 e a1 a2 σ2 (rp_Se b1 rfl (by omega)) b2 b3 b4
                      refine wq_g 233 d261_226 (by decide) ?_
                      refine wq_rv d261_233 ?_
                      exact fin
                    · -- pc 189
                      have f186 := b2y c186
                      refine wq_l 190 d261_189 rfl rfl rfl rfl ?_
                      refine wq_b 198 193 d261_190 rfl (by decide) rfl (fun c190 => ?_) (fun c190 => ?_)
                      · -- pc 198
                        skip
                        refine wq_l 199 d261_198 rfl rfl rfl rfl ?_
                        refine wq_k 201 122 d261_199 (by decide) rfl ?_
                        refine wq_v 204 [_] d261_201 rfl rfl m224 rfl rfl (Nat.le_of_ble_eq_true rfl) rfl (rp_is (k := 22) hN (by decide) (by decide) hS ?_)
                        refine wq_b 222 207 d261_204 rfl (by decide) rfl (fun c204 => ?_) (fun c204 => ?_)
                        · -- pc 222
                          have f204 := b2n c204
                          refine wq_l 223 d261_222 rfl rfl rfl rfl ?_
                          refine wq_v 226 [] d261_223 rfl rfl m264 rfl rfl (Nat.le_of_ble_eq_true rfl) rfl (xs264 (w := w) hN h34 hko hS (by first | exact ⟨20, by unfold xs_ew; omega, f186⟩ | exact ⟨22, by unfold xs_ew; omega, f204⟩ | exact ⟨27, by unfold xs_ew; omega, f219⟩) (fun e a1 a2 σ2 b1 b2 b3 b4 => ?_))
                          have fin := A4 e a1 a2 σ2 (rp_Se b1 rfl (by omega)) b2 b3 b4
                          refine wq_g 233 d261_226 (by decide) ?_
                          refine wq_rv d261_233 ?_
                          exact fin
                        · -- pc 207
                          have f204 := b2y c204
                          refine wq_l 208 d261_207 rfl rfl rfl rfl ?_
                          refine wq_k 210 6 d261_208 (by decide) rfl ?_
                          refine wq_b 229 213 d261_210 rfl (by decide) rfl (fun c210 => ?_) (fun c210 => ?_)
                          · -- pc 229
                            have w210 : ¬ w = 6 := by have y := c210; simp only [i_lt, i_le, i_eq, ne_eq, Int32.reduceToInt, b2_0, b2_1, decide_eq_true_eq, decide_eq_false_iff_not, Bool.not_eq_true, Bool.not_eq_false, ew] at y; omega
                            refine wq_l 230 d261_229 rfl rfl rfl rfl ?_
                            refine wq_v 233 [] d261_230 rfl rfl m230 rfl rfl (Nat.le_of_ble_eq_true rfl) rfl (rp_ref hN hS (fun σ1 h1 k1 => ?_))
                            have fin := A5 (fun y => by first | (exfalso; omega) | exact absurd (f51.symm.trans y.2) (by decide)) (fun y => by first | (exfalso; omega) | exact absurd (f91.symm.trans y.2) (by decide)) (fun y => by first | (exfalso; omega) | exact absurd (f149.symm.trans y.2) (by decide)) (fun e he => by
                                unfold xs_ew at he
                                rcases he with ⟨e1, e2⟩ | ⟨e1, e2⟩ | ⟨e1, e2⟩
                                · first | (exfalso; omega) | (rw [e2]; exact f186)
                                · first | (exfalso; omega) | (rw [e2]; exact f204)
                                · first | (exfalso; omega) | (rw [e2]; exact f219)) _ (rp_Se h1 rfl (by omega)) (fun to => rp_Ek k1)
                            refine wq_rv d261_233 ?_
                            exact fin
                          · -- pc 213
                            have w210 : w = 6 := by have y := c210; simp only [i_lt, i_le, i_eq, ne_eq, Int32.reduceToInt, b2_0, b2_1, decide_eq_true_eq, decide_eq_false_iff_not, Bool.not_eq_true, Bool.not_eq_false, ew] at y; omega
                            refine wq_l 214 d261_213 rfl rfl rfl rfl ?_
                            refine wq_k 216 127 d261_214 (by decide) rfl ?_
                            refine wq_v 219 [_] d261_216 rfl rfl m224 rfl rfl (Nat.le_of_ble_eq_true rfl) rfl (rp_is (k := 27) hN (by decide) (by decide) hS ?_)
                            refine wq_b 229 222 d261_219 rfl (by decide) rfl (fun c219 => ?_) (fun c219 => ?_)
                            · -- pc 229
                              have f219 := b2z c219
                              refine wq_l 230 d261_229 rfl rfl rfl rfl ?_
                              refine wq_v 233 [] d261_230 rfl rfl m230 rfl rfl (Nat.le_of_ble_eq_true rfl) rfl (rp_ref hN hS (fun σ1 h1 k1 => ?_))
                              have fin := A5 (fun y => by first | (exfalso; omega) | exact absurd (f51.symm.trans y.2) (by decide)) (fun y => by first | (exfalso; omega) | exact absurd (f91.symm.trans y.2) (by decide)) (fun y => by first | (exfalso; omega) | exact absurd (f149.symm.trans y.2) (by decide)) (fun e he => by
                                  unfold xs_ew at he
                                  rcases he with ⟨e1, e2⟩ | ⟨e1, e2⟩ | ⟨e1, e2⟩
                                  · first | (exfalso; omega) | (rw [e2]; exact f186)
                                  · first | (exfalso; omega) | (rw [e2]; exact f204)
                                  · first | (exfalso; omega) | (rw [e2]; exact f219)) _ (rp_Se h1 rfl (by omega)) (fun to => rp_Ek k1)
                              refine wq_rv d261_233 ?_
                              exact fin
                            · -- pc 222
                              have f219 := b2n c219
                              refine wq_l 223 d261_222 rfl rfl rfl rfl ?_
                              refine wq_v 226 [] d261_223 rfl rfl m264 rfl rfl (Nat.le_of_ble_eq_true rfl) rfl (xs264 (w := w) hN h34 hko hS (by first | exact ⟨20, by unfold xs_ew; omega, f186⟩ | exact ⟨22, by unfold xs_ew; omega, f204⟩ | exact ⟨27, by unfold xs_ew; omega, f219⟩) (fun e a1 a2 σ2 b1 b2 b3 b4 => ?_))
                              have fin := A4 e a1 a2 σ2 (rp_Se b1 rfl (by omega)) b2 b3 b4
                              refine wq_g 233 d261_226 (by decide) ?_
                              refine wq_rv d261_233 ?_
                              exact fin
                      · -- pc 193
                        skip
                        exact absurd (by decide) c190
              · -- pc 152
                have f149 := b2n c149
                refine wq_l 153 d261_152 rfl rfl rfl rfl ?_
                refine wq_a 154 d261_153 rfl rfl ?_
                refine wq_gi (ci := 10) (j := 34) 157 d261_154 rfl rfl rfl rfl ?_
                first | rw [h34] | rw [show σ1.1 10 34 = nI (k + 1) from (xs_k34 k1).trans h34]
                refine wq_k 158 1 d261_157 (by decide) rfl ?_
                refine wq_a 159 d261_158 rfl rfl ?_
                rw [nI_pred]
                refine wq_pf (ci := 10) (j := 34) 162 d261_159 rfl rfl rfl ⟨rfl, rfl⟩ rfl ?_
                have h2 := xs_Sq (xs_qi (x := nI k)) hS
                refine wq_l 163 d261_162 rfl rfl rfl rfl ?_
                refine wq_l 164 d261_163 rfl rfl rfl rfl ?_
                refine wq_v 167 [_] d261_164 rfl rfl m263 rfl rfl (Nat.le_of_ble_eq_true rfl) rfl (rp263 (s := s) hN (by omega) hnd hc1 rfl (by omega) h2 z (fun σa y σ2 h3 b2 m3 hy o hS2 => ?_))
                have fin := A7 (by omega) f149 _ _ _ _ _ _ (xs_qi (x := nI k)) (fun j hj => ⟨rfl, rfl, rfl⟩) m3 hy o (rp_Se hS2 rfl (by omega))
                refine wq_g 233 d261_167 (by decide) ?_
                refine wq_rv d261_233 ?_
                exact fin
          · -- pc 94
            have f91 := b2n c91
            refine wq_l 95 d261_94 rfl rfl rfl rfl ?_
            refine wq_gi (ci := 10) (j := 4) 98 d261_95 rfl rfl rfl rfl ?_
            refine wq_s 100 d261_98 rfl rfl (Nat.le_of_ble_eq_true rfl) rfl rfl ?_
            refine wq_l 101 d261_100 rfl rfl rfl rfl ?_
            refine wq_v 104 [] d261_101 rfl rfl m203 rfl rfl (Nat.le_of_ble_eq_true rfl) rfl (rp_go hN (pg_isl f91 (by decide)) hS (fun σ1 h1 k1 => ?_))
            refine wq_l 105 d261_104 rfl rfl rfl rfl ?_
            refine wq_a 106 d261_105 rfl rfl ?_
            refine wq_gi (ci := 10) (j := 34) 109 d261_106 rfl rfl rfl rfl ?_
            first | rw [h34] | rw [show σ1.1 10 34 = nI (k + 1) from (xs_k34 k1).trans h34]
            refine wq_k 110 1 d261_109 (by decide) rfl ?_
            refine wq_a 111 d261_110 rfl rfl ?_
            rw [nI_pred]
            refine wq_pf (ci := 10) (j := 34) 114 d261_111 rfl rfl rfl ⟨rfl, rfl⟩ rfl ?_
            have h2 := xs_Sq (xs_qi (x := nI k)) h1
            refine wq_l 115 d261_114 rfl rfl rfl rfl ?_
            refine wq_l 116 d261_115 rfl rfl rfl rfl ?_
            refine wq_b 123 119 d261_116 rfl (by decide) rfl (fun c116 => ?_) (fun c116 => ?_)
            · -- pc 123
              skip
              exact absurd c116 (by decide)
            · -- pc 119
              skip
              refine wq_k 120 5 d261_119 (by decide) rfl ?_
              refine wq_g 124 d261_120 (by decide) ?_
              refine wq_l 125 d261_124 rfl rfl rfl rfl ?_
              refine wq_l 126 d261_125 rfl rfl rfl rfl ?_
              refine wq_l 127 d261_126 rfl rfl rfl rfl ?_
              refine wq_k 129 11 d261_127 (by decide) rfl ?_
              refine wq_l 131 d261_129 rfl rfl rfl rfl ?_
              refine wq_k 132 0 d261_131 (by decide) rfl ?_
              refine wq_v 135 [_, _, _, _] d261_132 rfl rfl m226 rfl rfl (Nat.le_of_ble_eq_true rfl) rfl (rp_mkin (to := nd) hN (by omega) hnd h2 (fun σ3 h3 m3 => ?_))
              refine wq_v 138 [_, _, _] d261_135 rfl rfl m258 rfl rfl (Nat.le_of_ble_eq_true rfl) rfl (sp258 (k := k) (by rw [xs_d34 m3.1]; rfl) (by omega) ?_)
              have o2 := xs_obq (nn := nd) (w := 5) (k := k) k1 (xs_qi (x := nI k)) (fun j hj => ⟨rfl, rfl, rfl⟩) (xs_obm (σ := pm_pi σ1 10 34 (nI k)) (h := h) (nd := nd) (l := []) (c2 := pg_stp c) rp_Ewr xs_Nr m3 (fun w => by rw [xs_bps hl]; exact hpl))
              have fin := A3 (by omega) f91 _ _ _ (by rw [if_neg (by omega)]; exact o2) (rp_Se (xs_Sq xs_qp h3) rfl (by omega))
              refine wq_g 233 d261_138 (by decide) ?_
              refine wq_rv d261_233 ?_
              exact fin
    · -- pc 45
      have w42 : w = 1 := by have y := c42; simp only [i_lt, i_le, i_eq, ne_eq, Int32.reduceToInt, b2_0, b2_1, decide_eq_true_eq, decide_eq_false_iff_not, Bool.not_eq_true, Bool.not_eq_false, ew] at y; omega
      refine wq_l 46 d261_45 rfl rfl rfl rfl ?_
      refine wq_k 48 118 d261_46 (by decide) rfl ?_
      refine wq_v 51 [_] d261_48 rfl rfl m224 rfl rfl (Nat.le_of_ble_eq_true rfl) rfl (rp_is (k := 18) hN (by decide) (by decide) hS ?_)
      refine wq_b 76 54 d261_51 rfl (by decide) rfl (fun c51 => ?_) (fun c51 => ?_)
      · -- pc 76
        have f51 := b2z c51
        refine wq_l 77 d261_76 rfl rfl rfl rfl ?_
        refine wq_k 78 1 d261_77 (by decide) rfl ?_
        refine wq_b 85 81 d261_78 rfl (by decide) rfl (fun c78 => ?_) (fun c78 => ?_)
        · -- pc 85
          have w78 : w = 1 := by have y := c78; simp only [i_lt, i_le, i_eq, ne_eq, Int32.reduceToInt, b2_0, b2_1, decide_eq_true_eq, decide_eq_false_iff_not, Bool.not_eq_true, Bool.not_eq_false, ew] at y; omega
          refine wq_l 86 d261_85 rfl rfl rfl rfl ?_
          refine wq_k 88 119 d261_86 (by decide) rfl ?_
          refine wq_v 91 [_] d261_88 rfl rfl m224 rfl rfl (Nat.le_of_ble_eq_true rfl) rfl (rp_is (k := 19) hN (by decide) (by decide) hS ?_)
          refine wq_b 141 94 d261_91 rfl (by decide) rfl (fun c91 => ?_) (fun c91 => ?_)
          · -- pc 141
            have f91 := b2z c91
            refine wq_l 142 d261_141 rfl rfl rfl rfl ?_
            refine wq_b 170 145 d261_142 rfl (by decide) rfl (fun c142 => ?_) (fun c142 => ?_)
            · -- pc 170
              skip
              exact absurd c142 (by decide)
            · -- pc 145
              skip
              refine wq_l 146 d261_145 rfl rfl rfl rfl ?_
              refine wq_v 149 [] d261_146 rfl rfl m262 rfl rfl (Nat.le_of_ble_eq_true rfl) rfl (rp262 hN hS ?_)
              refine wq_b 170 152 d261_149 rfl (by decide) rfl (fun c149 => ?_) (fun c149 => ?_)
              · -- pc 170
                have f149 := b2z c149
                refine wq_l 171 d261_170 rfl rfl rfl rfl ?_
                refine wq_k 172 1 d261_171 (by decide) rfl ?_
                refine wq_b 180 175 d261_172 rfl (by decide) rfl (fun c172 => ?_) (fun c172 => ?_)
                · -- pc 180
                  have w172 : w = 1 := by have y := c172; simp only [i_lt, i_le, i_eq, ne_eq, Int32.reduceToInt, b2_0, b2_1, decide_eq_true_eq, decide_eq_false_iff_not, Bool.not_eq_true, Bool.not_eq_false, ew] at y; omega
                  refine wq_l 181 d261_180 rfl rfl rfl rfl ?_
                  refine wq_k 183 120 d261_181 (by decide) rfl ?_
                  refine wq_v 186 [_] d261_183 rfl rfl m224 rfl rfl (Nat.le_of_ble_eq_true rfl) rfl (rp_is (k := 20) hN (by decide) (by decide) hS ?_)
                  refine wq_b 222 189 d261_186 rfl (by decide) rfl (fun c186 => ?_) (fun c186 => ?_)
                  · -- pc 222
                    have f186 := b2n c186
                    refine wq_l 223 d261_222 rfl rfl rfl rfl ?_
                    refine wq_v 226 [] d261_223 rfl rfl m264 rfl rfl (Nat.le_of_ble_eq_true rfl) rfl (xs264 (w := w) hN h34 hko hS (by first | exact ⟨20, by unfold xs_ew; omega, f186⟩ | exact ⟨22, by unfold xs_ew; omega, f204⟩ | exact ⟨27, by unfold xs_ew; omega, f219⟩) (fun e a1 a2 σ2 b1 b2 b3 b4 => ?_))
                    have fin := A4 e a1 a2 σ2 (rp_Se b1 rfl (by omega)) b2 b3 b4
                    refine wq_g 233 d261_226 (by decide) ?_
                    refine wq_rv d261_233 ?_
                    exact fin
                  · -- pc 189
                    have f186 := b2y c186
                    refine wq_l 190 d261_189 rfl rfl rfl rfl ?_
                    refine wq_b 198 193 d261_190 rfl (by decide) rfl (fun c190 => ?_) (fun c190 => ?_)
                    · -- pc 198
                      skip
                      refine wq_l 199 d261_198 rfl rfl rfl rfl ?_
                      refine wq_k 201 122 d261_199 (by decide) rfl ?_
                      refine wq_v 204 [_] d261_201 rfl rfl m224 rfl rfl (Nat.le_of_ble_eq_true rfl) rfl (rp_is (k := 22) hN (by decide) (by decide) hS ?_)
                      refine wq_b 222 207 d261_204 rfl (by decide) rfl (fun c204 => ?_) (fun c204 => ?_)
                      · -- pc 222
                        have f204 := b2n c204
                        refine wq_l 223 d261_222 rfl rfl rfl rfl ?_
                        refine wq_v 226 [] d261_223 rfl rfl m264 rfl rfl (Nat.le_of_ble_eq_true rfl) rfl (xs264 (w := w) hN h34 hko hS (by first | exact ⟨20, by unfold xs_ew; omega, f186⟩ | exact ⟨22, by unfold xs_ew; omega, f204⟩ | exact ⟨27, by unfold xs_ew; omega, f219⟩) (fun e a1 a2 σ2 b1 b2 b3 b4 => ?_))
                        have fin := A4 e a1 a2 σ2 (rp_Se b1 rfl (by omega)) b2 b3 b4
                        refine wq_g 233 d261_226 (by decide) ?_
                        refine wq_rv d261_233 ?_
                        exact fin
                      · -- pc 207
                        have f204 := b2y c204
                        refine wq_l 208 d261_207 rfl rfl rfl rfl ?_
                        refine wq_k 210 6 d261_208 (by decide) rfl ?_
                        refine wq_b 229 213 d261_210 rfl (by decide) rfl (fun c210 => ?_) (fun c210 => ?_)
                        · -- pc 229
                          have w210 : ¬ w = 6 := by have y := c210; simp only [i_lt, i_le, i_eq, ne_eq, Int32.reduceToInt, b2_0, b2_1, decide_eq_true_eq, decide_eq_false_iff_not, Bool.not_eq_true, Bool.not_eq_false, ew] at y; omega
                          refine wq_l 230 d261_229 rfl rfl rfl rfl ?_
                          refine wq_v 233 [] d261_230 rfl rfl m230 rfl rfl (Nat.le_of_ble_eq_true rfl) rfl (rp_ref hN hS (fun σ1 h1 k1 => ?_))
                          have fin := A5 (fun y => by first | (exfalso; omega) | exact absurd (f51.symm.trans y.2) (by decide)) (fun y => by first | (exfalso; omega) | exact absurd (f91.symm.trans y.2) (by decide)) (fun y => by first | (exfalso; omega) | exact absurd (f149.symm.trans y.2) (by decide)) (fun e he => by
                              unfold xs_ew at he
                              rcases he with ⟨e1, e2⟩ | ⟨e1, e2⟩ | ⟨e1, e2⟩
                              · first | (exfalso; omega) | (rw [e2]; exact f186)
                              · first | (exfalso; omega) | (rw [e2]; exact f204)
                              · first | (exfalso; omega) | (rw [e2]; exact f219)) _ (rp_Se h1 rfl (by omega)) (fun to => rp_Ek k1)
                          refine wq_rv d261_233 ?_
                          exact fin
                        · -- pc 213
                          have w210 : w = 6 := by have y := c210; simp only [i_lt, i_le, i_eq, ne_eq, Int32.reduceToInt, b2_0, b2_1, decide_eq_true_eq, decide_eq_false_iff_not, Bool.not_eq_true, Bool.not_eq_false, ew] at y; omega
                          refine wq_l 214 d261_213 rfl rfl rfl rfl ?_
                          refine wq_k 216 127 d261_214 (by decide) rfl ?_
                          refine wq_v 219 [_] d261_216 rfl rfl m224 rfl rfl (Nat.le_of_ble_eq_true rfl) rfl (rp_is (k := 27) hN (by decide) (by decide) hS ?_)
                          refine wq_b 229 222 d261_219 rfl (by decide) rfl (fun c219 => ?_) (fun c219 => ?_)
                          · -- pc 229
                            have f219 := b2z c219
                            refine wq_l 230 d261_229 rfl rfl rfl rfl ?_
                            refine wq_v 233 [] d261_230 rfl rfl m230 rfl rfl (Nat.le_of_ble_eq_true rfl) rfl (rp_ref hN hS (fun σ1 h1 k1 => ?_))
                            have fin := A5 (fun y => by first | (exfalso; omega) | exact absurd (f51.symm.trans y.2) (by decide)) (fun y => by first | (exfalso; omega) | exact absurd (f91.symm.trans y.2) (by decide)) (fun y => by first | (exfalso; omega) | exact absurd (f149.symm.trans y.2) (by decide)) (fun e he => by
                                unfold xs_ew at he
                                rcases he with ⟨e1, e2⟩ | ⟨e1, e2⟩ | ⟨e1, e2⟩
                                · first | (exfalso; omega) | (rw [e2]; exact f186)
                                · first | (exfalso; omega) | (rw [e2]; exact f204)
                                · first | (exfalso; omega) | (rw [e2]; exact f219)) _ (rp_Se h1 rfl (by omega)) (fun to => rp_Ek k1)
                            refine wq_rv d261_233 ?_
                            exact fin
                          · -- pc 222
                            have f219 := b2n c219
                            refine wq_l 223 d261_222 rfl rfl rfl rfl ?_
                            refine wq_v 226 [] d261_223 rfl rfl m264 rfl rfl (Nat.le_of_ble_eq_true rfl) rfl (xs264 (w := w) hN h34 hko hS (by first | exact ⟨20, by unfold xs_ew; omega, f186⟩ | exact ⟨22, by unfold xs_ew; omega, f204⟩ | exact ⟨27, by unfold xs_ew; omega, f219⟩) (fun e a1 a2 σ2 b1 b2 b3 b4 => ?_))
                            have fin := A4 e a1 a2 σ2 (rp_Se b1 rfl (by omega)) b2 b3 b4
                            refine wq_g 233 d261_226 (by decide) ?_
                            refine wq_rv d261_233 ?_
                            exact fin
                    · -- pc 193
                      skip
                      exact absurd (by decide) c190
                · -- pc 175
                  have w172 : ¬ w = 1 := by have y := c172; simp only [i_lt, i_le, i_eq, ne_eq, Int32.reduceToInt, b2_0, b2_1, decide_eq_true_eq, decide_eq_false_iff_not, Bool.not_eq_true, Bool.not_eq_false, ew] at y; omega
                  exfalso; omega
              · -- pc 152
                have f149 := b2n c149
                refine wq_l 153 d261_152 rfl rfl rfl rfl ?_
                refine wq_a 154 d261_153 rfl rfl ?_
                refine wq_gi (ci := 10) (j := 34) 157 d261_154 rfl rfl rfl rfl ?_
                first | rw [h34] | rw [show σ1.1 10 34 = nI (k + 1) from (xs_k34 k1).trans h34]
                refine wq_k 158 1 d261_157 (by decide) rfl ?_
                refine wq_a 159 d261_158 rfl rfl ?_
                rw [nI_pred]
                refine wq_pf (ci := 10) (j := 34) 162 d261_159 rfl rfl rfl ⟨rfl, rfl⟩ rfl ?_
                have h2 := xs_Sq (xs_qi (x := nI k)) hS
                refine wq_l 163 d261_162 rfl rfl rfl rfl ?_
                refine wq_l 164 d261_163 rfl rfl rfl rfl ?_
                refine wq_v 167 [_] d261_164 rfl rfl m263 rfl rfl (Nat.le_of_ble_eq_true rfl) rfl (rp263 (s := s) hN (by omega) hnd hc1 rfl (by omega) h2 z (fun σa y σ2 h3 b2 m3 hy o hS2 => ?_))
                have fin := A7 (by omega) f149 _ _ _ _ _ _ (xs_qi (x := nI k)) (fun j hj => ⟨rfl, rfl, rfl⟩) m3 hy o (rp_Se hS2 rfl (by omega))
                refine wq_g 233 d261_167 (by decide) ?_
                refine wq_rv d261_233 ?_
                exact fin
          · -- pc 94
            have f91 := b2n c91
            refine wq_l 95 d261_94 rfl rfl rfl rfl ?_
            refine wq_gi (ci := 10) (j := 4) 98 d261_95 rfl rfl rfl rfl ?_
            refine wq_s 100 d261_98 rfl rfl (Nat.le_of_ble_eq_true rfl) rfl rfl ?_
            refine wq_l 101 d261_100 rfl rfl rfl rfl ?_
            refine wq_v 104 [] d261_101 rfl rfl m203 rfl rfl (Nat.le_of_ble_eq_true rfl) rfl (rp_go hN (pg_isl f91 (by decide)) hS (fun σ1 h1 k1 => ?_))
            refine wq_l 105 d261_104 rfl rfl rfl rfl ?_
            refine wq_a 106 d261_105 rfl rfl ?_
            refine wq_gi (ci := 10) (j := 34) 109 d261_106 rfl rfl rfl rfl ?_
            first | rw [h34] | rw [show σ1.1 10 34 = nI (k + 1) from (xs_k34 k1).trans h34]
            refine wq_k 110 1 d261_109 (by decide) rfl ?_
            refine wq_a 111 d261_110 rfl rfl ?_
            rw [nI_pred]
            refine wq_pf (ci := 10) (j := 34) 114 d261_111 rfl rfl rfl ⟨rfl, rfl⟩ rfl ?_
            have h2 := xs_Sq (xs_qi (x := nI k)) h1
            refine wq_l 115 d261_114 rfl rfl rfl rfl ?_
            refine wq_l 116 d261_115 rfl rfl rfl rfl ?_
            refine wq_b 123 119 d261_116 rfl (by decide) rfl (fun c116 => ?_) (fun c116 => ?_)
            · -- pc 123
              skip
              exact absurd c116 (by decide)
            · -- pc 119
              skip
              refine wq_k 120 5 d261_119 (by decide) rfl ?_
              refine wq_g 124 d261_120 (by decide) ?_
              refine wq_l 125 d261_124 rfl rfl rfl rfl ?_
              refine wq_l 126 d261_125 rfl rfl rfl rfl ?_
              refine wq_l 127 d261_126 rfl rfl rfl rfl ?_
              refine wq_k 129 11 d261_127 (by decide) rfl ?_
              refine wq_l 131 d261_129 rfl rfl rfl rfl ?_
              refine wq_k 132 0 d261_131 (by decide) rfl ?_
              refine wq_v 135 [_, _, _, _] d261_132 rfl rfl m226 rfl rfl (Nat.le_of_ble_eq_true rfl) rfl (rp_mkin (to := nd) hN (by omega) hnd h2 (fun σ3 h3 m3 => ?_))
              refine wq_v 138 [_, _, _] d261_135 rfl rfl m258 rfl rfl (Nat.le_of_ble_eq_true rfl) rfl (sp258 (k := k) (by rw [xs_d34 m3.1]; rfl) (by omega) ?_)
              have o2 := xs_obq (nn := nd) (w := 5) (k := k) k1 (xs_qi (x := nI k)) (fun j hj => ⟨rfl, rfl, rfl⟩) (xs_obm (σ := pm_pi σ1 10 34 (nI k)) (h := h) (nd := nd) (l := []) (c2 := pg_stp c) rp_Ewr xs_Nr m3 (fun w => by rw [xs_bps hl]; exact hpl))
              have fin := A3 (by omega) f91 _ _ _ (by rw [if_neg (by omega)]; exact o2) (rp_Se (xs_Sq xs_qp h3) rfl (by omega))
              refine wq_g 233 d261_138 (by decide) ?_
              refine wq_rv d261_233 ?_
              exact fin
        · -- pc 81
          have w78 : ¬ w = 1 := by have y := c78; simp only [i_lt, i_le, i_eq, ne_eq, Int32.reduceToInt, b2_0, b2_1, decide_eq_true_eq, decide_eq_false_iff_not, Bool.not_eq_true, Bool.not_eq_false, ew] at y; omega
          exfalso; omega
      · -- pc 54
        have f51 := b2n c51
        refine wq_l 55 d261_54 rfl rfl rfl rfl ?_
        refine wq_v 58 [] d261_55 rfl rfl m203 rfl rfl (Nat.le_of_ble_eq_true rfl) rfl (rp_go hN (pg_isl f51 (by decide)) hS (fun σ1 h1 k1 => ?_))
        refine wq_l 59 d261_58 rfl rfl rfl rfl ?_
        refine wq_a 60 d261_59 rfl rfl ?_
        refine wq_gi (ci := 10) (j := 34) 63 d261_60 rfl rfl rfl rfl ?_
        first | rw [h34] | rw [show σ1.1 10 34 = nI (k + 1) from (xs_k34 k1).trans h34]
        refine wq_k 64 1 d261_63 (by decide) rfl ?_
        refine wq_a 65 d261_64 rfl rfl ?_
        rw [nI_pred]
        refine wq_pf (ci := 10) (j := 34) 68 d261_65 rfl rfl rfl ⟨rfl, rfl⟩ rfl ?_
        have h2 := xs_Sq (xs_qi (x := nI k)) h1
        refine wq_l 69 d261_68 rfl rfl rfl rfl ?_
        refine wq_l 70 d261_69 rfl rfl rfl rfl ?_
        refine wq_v 73 [_] d261_70 rfl rfl m257 rfl rfl (Nat.le_of_ble_eq_true rfl) rfl (rp257 (s := s) hN (by omega) hnd rfl (by omega) h2 (fun σ2 h3 b2 o hS2 => ?_))
        have o2 := xs_obq k1 (xs_qi (x := nI k)) (fun j hj => ⟨rfl, rfl, rfl⟩) o
        have fin := A2 w42 f51 _ _ _ o2 (rp_Se hS2 rfl (by omega))
        refine wq_g 233 d261_73 (by decide) ?_
        refine wq_rv d261_233 ?_
        exact fin
  · -- pc 29
    have w26 : ¬ w = 3 := by have y := c26; simp only [i_lt, i_le, i_eq, ne_eq, Int32.reduceToInt, b2_0, b2_1, decide_eq_true_eq, decide_eq_false_iff_not, Bool.not_eq_true, Bool.not_eq_false, ew] at y; omega
    refine wq_l 30 d261_29 rfl rfl rfl rfl ?_
    refine wq_k 31 4 d261_30 (by decide) rfl ?_
    refine wq_b 38 34 d261_31 rfl (by decide) rfl (fun c31 => ?_) (fun c31 => ?_)
    · -- pc 38
      have w31 : ¬ w = 4 := by have y := c31; simp only [i_lt, i_le, i_eq, ne_eq, Int32.reduceToInt, b2_0, b2_1, decide_eq_true_eq, decide_eq_false_iff_not, Bool.not_eq_true, Bool.not_eq_false, ew] at y; omega
      refine wq_k 39 0 d261_38 (by decide) rfl ?_
      refine wq_s 40 d261_39 rfl rfl (Nat.le_of_ble_eq_true rfl) rfl rfl ?_
      refine wq_l 41 d261_40 rfl rfl rfl rfl ?_
      refine wq_k 42 1 d261_41 (by decide) rfl ?_
      refine wq_b 76 45 d261_42 rfl (by decide) rfl (fun c42 => ?_) (fun c42 => ?_)
      · -- pc 76
        have w42 : ¬ w = 1 := by have y := c42; simp only [i_lt, i_le, i_eq, ne_eq, Int32.reduceToInt, b2_0, b2_1, decide_eq_true_eq, decide_eq_false_iff_not, Bool.not_eq_true, Bool.not_eq_false, ew] at y; omega
        refine wq_l 77 d261_76 rfl rfl rfl rfl ?_
        refine wq_k 78 1 d261_77 (by decide) rfl ?_
        refine wq_b 85 81 d261_78 rfl (by decide) rfl (fun c78 => ?_) (fun c78 => ?_)
        · -- pc 85
          have w78 : w = 1 := by have y := c78; simp only [i_lt, i_le, i_eq, ne_eq, Int32.reduceToInt, b2_0, b2_1, decide_eq_true_eq, decide_eq_false_iff_not, Bool.not_eq_true, Bool.not_eq_false, ew] at y; omega
          exfalso; omega
        · -- pc 81
          have w78 : ¬ w = 1 := by have y := c78; simp only [i_lt, i_le, i_eq, ne_eq, Int32.reduceToInt, b2_0, b2_1, decide_eq_true_eq, decide_eq_false_iff_not, Bool.not_eq_true, Bool.not_eq_false, ew] at y; omega
          refine wq_l 82 d261_81 rfl rfl rfl rfl ?_
          refine wq_b 141 85 d261_82 rfl (by decide) rfl (fun c82 => ?_) (fun c82 => ?_)
          · -- pc 141
            skip
            refine wq_l 142 d261_141 rfl rfl rfl rfl ?_
            refine wq_b 170 145 d261_142 rfl (by decide) rfl (fun c142 => ?_) (fun c142 => ?_)
            · -- pc 170
              skip
              refine wq_l 171 d261_170 rfl rfl rfl rfl ?_
              refine wq_k 172 1 d261_171 (by decide) rfl ?_
              refine wq_b 180 175 d261_172 rfl (by decide) rfl (fun c172 => ?_) (fun c172 => ?_)
              · -- pc 180
                have w172 : w = 1 := by have y := c172; simp only [i_lt, i_le, i_eq, ne_eq, Int32.reduceToInt, b2_0, b2_1, decide_eq_true_eq, decide_eq_false_iff_not, Bool.not_eq_true, Bool.not_eq_false, ew] at y; omega
                exfalso; omega
              · -- pc 175
                have w172 : ¬ w = 1 := by have y := c172; simp only [i_lt, i_le, i_eq, ne_eq, Int32.reduceToInt, b2_0, b2_1, decide_eq_true_eq, decide_eq_false_iff_not, Bool.not_eq_true, Bool.not_eq_false, ew] at y; omega
                refine wq_l 176 d261_175 rfl rfl rfl rfl ?_
                refine wq_k 177 2 d261_176 (by decide) rfl ?_
                refine wq_b 189 180 d261_177 rfl (by decide) rfl (fun c177 => ?_) (fun c177 => ?_)
                · -- pc 189
                  have w177 : ¬ w = 2 := by have y := c177; simp only [i_lt, i_le, i_eq, ne_eq, Int32.reduceToInt, b2_0, b2_1, decide_eq_true_eq, decide_eq_false_iff_not, Bool.not_eq_true, Bool.not_eq_false, ew] at y; omega
                  refine wq_l 190 d261_189 rfl rfl rfl rfl ?_
                  refine wq_b 198 193 d261_190 rfl (by decide) rfl (fun c190 => ?_) (fun c190 => ?_)
                  · -- pc 198
                    skip
                    exact absurd c190 (by decide)
                  · -- pc 193
                    skip
                    refine wq_l 194 d261_193 rfl rfl rfl rfl ?_
                    refine wq_k 195 5 d261_194 (by decide) rfl ?_
                    refine wq_b 207 198 d261_195 rfl (by decide) rfl (fun c195 => ?_) (fun c195 => ?_)
                    · -- pc 207
                      have w195 : ¬ w = 5 := by have y := c195; simp only [i_lt, i_le, i_eq, ne_eq, Int32.reduceToInt, b2_0, b2_1, decide_eq_true_eq, decide_eq_false_iff_not, Bool.not_eq_true, Bool.not_eq_false, ew] at y; omega
                      refine wq_l 208 d261_207 rfl rfl rfl rfl ?_
                      refine wq_k 210 6 d261_208 (by decide) rfl ?_
                      refine wq_b 229 213 d261_210 rfl (by decide) rfl (fun c210 => ?_) (fun c210 => ?_)
                      · -- pc 229
                        have w210 : ¬ w = 6 := by have y := c210; simp only [i_lt, i_le, i_eq, ne_eq, Int32.reduceToInt, b2_0, b2_1, decide_eq_true_eq, decide_eq_false_iff_not, Bool.not_eq_true, Bool.not_eq_false, ew] at y; omega
                        refine wq_l 230 d261_229 rfl rfl rfl rfl ?_
                        refine wq_v 233 [] d261_230 rfl rfl m230 rfl rfl (Nat.le_of_ble_eq_true rfl) rfl (rp_ref hN hS (fun σ1 h1 k1 => ?_))
                        have fin := A5 (fun y => by first | (exfalso; omega) | exact absurd (f51.symm.trans y.2) (by decide)) (fun y => by first | (exfalso; omega) | exact absurd (f91.symm.trans y.2) (by decide)) (fun y => by first | (exfalso; omega) | exact absurd (f149.symm.trans y.2) (by decide)) (fun e he => by
                            unfold xs_ew at he
                            rcases he with ⟨e1, e2⟩ | ⟨e1, e2⟩ | ⟨e1, e2⟩
                            · first | (exfalso; omega) | (rw [e2]; exact f186)
                            · first | (exfalso; omega) | (rw [e2]; exact f204)
                            · first | (exfalso; omega) | (rw [e2]; exact f219)) _ (rp_Se h1 rfl (by omega)) (fun to => rp_Ek k1)
                        refine wq_rv d261_233 ?_
                        exact fin
                      · -- pc 213
                        have w210 : w = 6 := by have y := c210; simp only [i_lt, i_le, i_eq, ne_eq, Int32.reduceToInt, b2_0, b2_1, decide_eq_true_eq, decide_eq_false_iff_not, Bool.not_eq_true, Bool.not_eq_false, ew] at y; omega
                        refine wq_l 214 d261_213 rfl rfl rfl rfl ?_
                        refine wq_k 216 127 d261_214 (by decide) rfl ?_
                        refine wq_v 219 [_] d261_216 rfl rfl m224 rfl rfl (Nat.le_of_ble_eq_true rfl) rfl (rp_is (k := 27) hN (by decide) (by decide) hS ?_)
                        refine wq_b 229 222 d261_219 rfl (by decide) rfl (fun c219 => ?_) (fun c219 => ?_)
                        · -- pc 229
                          have f219 := b2z c219
                          refine wq_l 230 d261_229 rfl rfl rfl rfl ?_
                          refine wq_v 233 [] d261_230 rfl rfl m230 rfl rfl (Nat.le_of_ble_eq_true rfl) rfl (rp_ref hN hS (fun σ1 h1 k1 => ?_))
                          have fin := A5 (fun y => by first | (exfalso; omega) | exact absurd (f51.symm.trans y.2) (by decide)) (fun y => by first | (exfalso; omega) | exact absurd (f91.symm.trans y.2) (by decide)) (fun y => by first | (exfalso; omega) | exact absurd (f149.symm.trans y.2) (by decide)) (fun e he => by
                              unfold xs_ew at he
                              rcases he with ⟨e1, e2⟩ | ⟨e1, e2⟩ | ⟨e1, e2⟩
                              · first | (exfalso; omega) | (rw [e2]; exact f186)
                              · first | (exfalso; omega) | (rw [e2]; exact f204)
                              · first | (exfalso; omega) | (rw [e2]; exact f219)) _ (rp_Se h1 rfl (by omega)) (fun to => rp_Ek k1)
                          refine wq_rv d261_233 ?_
                          exact fin
                        · -- pc 222
                          have f219 := b2n c219
                          refine wq_l 223 d261_222 rfl rfl rfl rfl ?_
                          refine wq_v 226 [] d261_223 rfl rfl m264 rfl rfl (Nat.le_of_ble_eq_true rfl) rfl (xs264 (w := w) hN h34 hko hS (by first | exact ⟨20, by unfold xs_ew; omega, f186⟩ | exact ⟨22, by unfold xs_ew; omega, f204⟩ | exact ⟨27, by unfold xs_ew; omega, f219⟩) (fun e a1 a2 σ2 b1 b2 b3 b4 => ?_))
                          have fin := A4 e a1 a2 σ2 (rp_Se b1 rfl (by omega)) b2 b3 b4
                          refine wq_g 233 d261_226 (by decide) ?_
                          refine wq_rv d261_233 ?_
                          exact fin
                    · -- pc 198
                      have w195 : w = 5 := by have y := c195; simp only [i_lt, i_le, i_eq, ne_eq, Int32.reduceToInt, b2_0, b2_1, decide_eq_true_eq, decide_eq_false_iff_not, Bool.not_eq_true, Bool.not_eq_false, ew] at y; omega
                      refine wq_l 199 d261_198 rfl rfl rfl rfl ?_
                      refine wq_k 201 122 d261_199 (by decide) rfl ?_
                      refine wq_v 204 [_] d261_201 rfl rfl m224 rfl rfl (Nat.le_of_ble_eq_true rfl) rfl (rp_is (k := 22) hN (by decide) (by decide) hS ?_)
                      refine wq_b 222 207 d261_204 rfl (by decide) rfl (fun c204 => ?_) (fun c204 => ?_)
                      · -- pc 222
                        have f204 := b2n c204
                        refine wq_l 223 d261_222 rfl rfl rfl rfl ?_
                        refine wq_v 226 [] d261_223 rfl rfl m264 rfl rfl (Nat.le_of_ble_eq_true rfl) rfl (xs264 (w := w) hN h34 hko hS (by first | exact ⟨20, by unfold xs_ew; omega, f186⟩ | exact ⟨22, by unfold xs_ew; omega, f204⟩ | exact ⟨27, by unfold xs_ew; omega, f219⟩) (fun e a1 a2 σ2 b1 b2 b3 b4 => ?_))
                        have fin := A4 e a1 a2 σ2 (rp_Se b1 rfl (by omega)) b2 b3 b4
                        refine wq_g 233 d261_226 (by decide) ?_
                        refine wq_rv d261_233 ?_
                        exact fin
                      · -- pc 207
                        have f204 := b2y c204
                        refine wq_l 208 d261_207 rfl rfl rfl rfl ?_
                        refine wq_k 210 6 d261_208 (by decide) rfl ?_
                        refine wq_b 229 213 d261_210 rfl (by decide) rfl (fun c210 => ?_) (fun c210 => ?_)
                        · -- pc 229
                          have w210 : ¬ w = 6 := by have y := c210; simp only [i_lt, i_le, i_eq, ne_eq, Int32.reduceToInt, b2_0, b2_1, decide_eq_true_eq, decide_eq_false_iff_not, Bool.not_eq_true, Bool.not_eq_false, ew] at y; omega
                          refine wq_l 230 d261_229 rfl rfl rfl rfl ?_
                          refine wq_v 233 [] d261_230 rfl rfl m230 rfl rfl (Nat.le_of_ble_eq_true rfl) rfl (rp_ref hN hS (fun σ1 h1 k1 => ?_))
                          have fin := A5 (fun y => by first | (exfalso; omega) | exact absurd (f51.symm.trans y.2) (by decide)) (fun y => by first | (exfalso; omega) | exact absurd (f91.symm.trans y.2) (by decide)) (fun y => by first | (exfalso; omega) | exact absurd (f149.symm.trans y.2) (by decide)) (fun e he => by
                              unfold xs_ew at he
                              rcases he with ⟨e1, e2⟩ | ⟨e1, e2⟩ | ⟨e1, e2⟩
                              · first | (exfalso; omega) | (rw [e2]; exact f186)
                              · first | (exfalso; omega) | (rw [e2]; exact f204)
                              · first | (exfalso; omega) | (rw [e2]; exact f219)) _ (rp_Se h1 rfl (by omega)) (fun to => rp_Ek k1)
                          refine wq_rv d261_233 ?_
                          exact fin
                        · -- pc 213
                          have w210 : w = 6 := by have y := c210; simp only [i_lt, i_le, i_eq, ne_eq, Int32.reduceToInt, b2_0, b2_1, decide_eq_true_eq, decide_eq_false_iff_not, Bool.not_eq_true, Bool.not_eq_false, ew] at y; omega
                          refine wq_l 214 d261_213 rfl rfl rfl rfl ?_
                          refine wq_k 216 127 d261_214 (by decide) rfl ?_
                          refine wq_v 219 [_] d261_216 rfl rfl m224 rfl rfl (Nat.le_of_ble_eq_true rfl) rfl (rp_is (k := 27) hN (by decide) (by decide) hS ?_)
                          refine wq_b 229 222 d261_219 rfl (by decide) rfl (fun c219 => ?_) (fun c219 => ?_)
                          · -- pc 229
                            have f219 := b2z c219
                            refine wq_l 230 d261_229 rfl rfl rfl rfl ?_
                            refine wq_v 233 [] d261_230 rfl rfl m230 rfl rfl (Nat.le_of_ble_eq_true rfl) rfl (rp_ref hN hS (fun σ1 h1 k1 => ?_))
                            have fin := A5 (fun y => by first | (exfalso; omega) | exact absurd (f51.symm.trans y.2) (by decide)) (fun y => by first | (exfalso; omega) | exact absurd (f91.symm.trans y.2) (by decide)) (fun y => by first | (exfalso; omega) | exact absurd (f149.symm.trans y.2) (by decide)) (fun e he => by
                                unfold xs_ew at he
                                rcases he with ⟨e1, e2⟩ | ⟨e1, e2⟩ | ⟨e1, e2⟩
                                · first | (exfalso; omega) | (rw [e2]; exact f186)
                                · first | (exfalso; omega) | (rw [e2]; exact f204)
                                · first | (exfalso; omega) | (rw [e2]; exact f219)) _ (rp_Se h1 rfl (by omega)) (fun to => rp_Ek k1)
                            refine wq_rv d261_233 ?_
                            exact fin
                          · -- pc 222
                            have f219 := b2n c219
                            refine wq_l 223 d261_222 rfl rfl rfl rfl ?_
                            refine wq_v 226 [] d261_223 rfl rfl m264 rfl rfl (Nat.le_of_ble_eq_true rfl) rfl (xs264 (w := w) hN h34 hko hS (by first | exact ⟨20, by unfold xs_ew; omega, f186⟩ | exact ⟨22, by unfold xs_ew; omega, f204⟩ | exact ⟨27, by unfold xs_ew; omega, f219⟩) (fun e a1 a2 σ2 b1 b2 b3 b4 => ?_))
                            have fin := A4 e a1 a2 σ2 (rp_Se b1 rfl (by omega)) b2 b3 b4
                            refine wq_g 233 d261_226 (by decide) ?_
                            refine wq_rv d261_233 ?_
                            exact fin
                · -- pc 180
                  have w177 : w = 2 := by have y := c177; simp only [i_lt, i_le, i_eq, ne_eq, Int32.reduceToInt, b2_0, b2_1, decide_eq_true_eq, decide_eq_false_iff_not, Bool.not_eq_true, Bool.not_eq_false, ew] at y; omega
                  refine wq_l 181 d261_180 rfl rfl rfl rfl ?_
                  refine wq_k 183 120 d261_181 (by decide) rfl ?_
                  refine wq_v 186 [_] d261_183 rfl rfl m224 rfl rfl (Nat.le_of_ble_eq_true rfl) rfl (rp_is (k := 20) hN (by decide) (by decide) hS ?_)
                  refine wq_b 222 189 d261_186 rfl (by decide) rfl (fun c186 => ?_) (fun c186 => ?_)
                  · -- pc 222
                    have f186 := b2n c186
                    refine wq_l 223 d261_222 rfl rfl rfl rfl ?_
                    refine wq_v 226 [] d261_223 rfl rfl m264 rfl rfl (Nat.le_of_ble_eq_true rfl) rfl (xs264 (w := w) hN h34 hko hS (by first | exact ⟨20, by unfold xs_ew; omega, f186⟩ | exact ⟨22, by unfold xs_ew; omega, f204⟩ | exact ⟨27, by unfold xs_ew; omega, f219⟩) (fun e a1 a2 σ2 b1 b2 b3 b4 => ?_))
                    have fin := A4 e a1 a2 σ2 (rp_Se b1 rfl (by omega)) b2 b3 b4
                    refine wq_g 233 d261_226 (by decide) ?_
                    refine wq_rv d261_233 ?_
                    exact fin
                  · -- pc 189
                    have f186 := b2y c186
                    refine wq_l 190 d261_189 rfl rfl rfl rfl ?_
                    refine wq_b 198 193 d261_190 rfl (by decide) rfl (fun c190 => ?_) (fun c190 => ?_)
                    · -- pc 198
                      skip
                      exact absurd c190 (by decide)
                    · -- pc 193
                      skip
                      refine wq_l 194 d261_193 rfl rfl rfl rfl ?_
                      refine wq_k 195 5 d261_194 (by decide) rfl ?_
                      refine wq_b 207 198 d261_195 rfl (by decide) rfl (fun c195 => ?_) (fun c195 => ?_)
                      · -- pc 207
                        have w195 : ¬ w = 5 := by have y := c195; simp only [i_lt, i_le, i_eq, ne_eq, Int32.reduceToInt, b2_0, b2_1, decide_eq_true_eq, decide_eq_false_iff_not, Bool.not_eq_true, Bool.not_eq_false, ew] at y; omega
                        refine wq_l 208 d261_207 rfl rfl rfl rfl ?_
                        refine wq_k 210 6 d261_208 (by decide) rfl ?_
                        refine wq_b 229 213 d261_210 rfl (by decide) rfl (fun c210 => ?_) (fun c210 => ?_)
                        · -- pc 229
                          have w210 : ¬ w = 6 := by have y := c210; simp only [i_lt, i_le, i_eq, ne_eq, Int32.reduceToInt, b2_0, b2_1, decide_eq_true_eq, decide_eq_false_iff_not, Bool.not_eq_true, Bool.not_eq_false, ew] at y; omega
                          refine wq_l 230 d261_229 rfl rfl rfl rfl ?_
                          refine wq_v 233 [] d261_230 rfl rfl m230 rfl rfl (Nat.le_of_ble_eq_true rfl) rfl (rp_ref hN hS (fun σ1 h1 k1 => ?_))
                          have fin := A5 (fun y => by first | (exfalso; omega) | exact absurd (f51.symm.trans y.2) (by decide)) (fun y => by first | (exfalso; omega) | exact absurd (f91.symm.trans y.2) (by decide)) (fun y => by first | (exfalso; omega) | exact absurd (f149.symm.trans y.2) (by decide)) (fun e he => by
                              unfold xs_ew at he
                              rcases he with ⟨e1, e2⟩ | ⟨e1, e2⟩ | ⟨e1, e2⟩
                              · first | (exfalso; omega) | (rw [e2]; exact f186)
                              · first | (exfalso; omega) | (rw [e2]; exact f204)
                              · first | (exfalso; omega) | (rw [e2]; exact f219)) _ (rp_Se h1 rfl (by omega)) (fun to => rp_Ek k1)
                          refine wq_rv d261_233 ?_
                          exact fin
                        · -- pc 213
                          have w210 : w = 6 := by have y := c210; simp only [i_lt, i_le, i_eq, ne_eq, Int32.reduceToInt, b2_0, b2_1, decide_eq_true_eq, decide_eq_false_iff_not, Bool.not_eq_true, Bool.not_eq_false, ew] at y; omega
                          refine wq_l 214 d261_213 rfl rfl rfl rfl ?_
                          refine wq_k 216 127 d261_214 (by decide) rfl ?_
                          refine wq_v 219 [_] d261_216 rfl rfl m224 rfl rfl (Nat.le_of_ble_eq_true rfl) rfl (rp_is (k := 27) hN (by decide) (by decide) hS ?_)
                          refine wq_b 229 222 d261_219 rfl (by decide) rfl (fun c219 => ?_) (fun c219 => ?_)
                          · -- pc 229
                            have f219 := b2z c219
                            refine wq_l 230 d261_229 rfl rfl rfl rfl ?_
                            refine wq_v 233 [] d261_230 rfl rfl m230 rfl rfl (Nat.le_of_ble_eq_true rfl) rfl (rp_ref hN hS (fun σ1 h1 k1 => ?_))
                            have fin := A5 (fun y => by first | (exfalso; omega) | exact absurd (f51.symm.trans y.2) (by decide)) (fun y => by first | (exfalso; omega) | exact absurd (f91.symm.trans y.2) (by decide)) (fun y => by first | (exfalso; omega) | exact absurd (f149.symm.trans y.2) (by decide)) (fun e he => by
                                unfold xs_ew at he
                                rcases he with ⟨e1, e2⟩ | ⟨e1, e2⟩ | ⟨e1, e2⟩
                                · first | (exfalso; omega) | (rw [e2]; exact f186)
                                · first | (exfalso; omega) | (rw [e2]; exact f204)
                                · first | (exfalso; omega) | (rw [e2]; exact f219)) _ (rp_Se h1 rfl (by omega)) (fun to => rp_Ek k1)
                            refine wq_rv d261_233 ?_
                            exact fin
                          · -- pc 222
                            have f219 := b2n c219
                            refine wq_l 223 d261_222 rfl rfl rfl rfl ?_
                            refine wq_v 226 [] d261_223 rfl rfl m264 rfl rfl (Nat.le_of_ble_eq_true rfl) rfl (xs264 (w := w) hN h34 hko hS (by first | exact ⟨20, by unfold xs_ew; omega, f186⟩ | exact ⟨22, by unfold xs_ew; omega, f204⟩ | exact ⟨27, by unfold xs_ew; omega, f219⟩) (fun e a1 a2 σ2 b1 b2 b3 b4 => ?_))
                            have fin := A4 e a1 a2 σ2 (rp_Se b1 rfl (by omega)) b2 b3 b4
                            refine wq_g 233 d261_226 (by decide) ?_
                            refine wq_rv d261_233 ?_
                            exact fin
                      · -- pc 198
                        have w195 : w = 5 := by have y := c195; simp only [i_lt, i_le, i_eq, ne_eq, Int32.reduceToInt, b2_0, b2_1, decide_eq_true_eq, decide_eq_false_iff_not, Bool.not_eq_true, Bool.not_eq_false, ew] at y; omega
                        refine wq_l 199 d261_198 rfl rfl rfl rfl ?_
                        refine wq_k 201 122 d261_199 (by decide) rfl ?_
                        refine wq_v 204 [_] d261_201 rfl rfl m224 rfl rfl (Nat.le_of_ble_eq_true rfl) rfl (rp_is (k := 22) hN (by decide) (by decide) hS ?_)
                        refine wq_b 222 207 d261_204 rfl (by decide) rfl (fun c204 => ?_) (fun c204 => ?_)
                        · -- pc 222
                          have f204 := b2n c204
                          refine wq_l 223 d261_222 rfl rfl rfl rfl ?_
                          refine wq_v 226 [] d261_223 rfl rfl m264 rfl rfl (Nat.le_of_ble_eq_true rfl) rfl (xs264 (w := w) hN h34 hko hS (by first | exact ⟨20, by unfold xs_ew; omega, f186⟩ | exact ⟨22, by unfold xs_ew; omega, f204⟩ | exact ⟨27, by unfold xs_ew; omega, f219⟩) (fun e a1 a2 σ2 b1 b2 b3 b4 => ?_))
                          have fin := A4 e a1 a2 σ2 (rp_Se b1 rfl (by omega)) b2 b3 b4
                          refine wq_g 233 d261_226 (by decide) ?_
                          refine wq_rv d261_233 ?_
                          exact fin
                        · -- pc 207
                          have f204 := b2y c204
                          refine wq_l 208 d261_207 rfl rfl rfl rfl ?_
                          refine wq_k 210 6 d261_208 (by decide) rfl ?_
                          refine wq_b 229 213 d261_210 rfl (by decide) rfl (fun c210 => ?_) (fun c210 => ?_)
                          · -- pc 229
                            have w210 : ¬ w = 6 := by have y := c210; simp only [i_lt, i_le, i_eq, ne_eq, Int32.reduceToInt, b2_0, b2_1, decide_eq_true_eq, decide_eq_false_iff_not, Bool.not_eq_true, Bool.not_eq_false, ew] at y; omega
                            refine wq_l 230 d261_229 rfl rfl rfl rfl ?_
                            refine wq_v 233 [] d261_230 rfl rfl m230 rfl rfl (Nat.le_of_ble_eq_true rfl) rfl (rp_ref hN hS (fun σ1 h1 k1 => ?_))
                            have fin := A5 (fun y => by first | (exfalso; omega) | exact absurd (f51.symm.trans y.2) (by decide)) (fun y => by first | (exfalso; omega) | exact absurd (f91.symm.trans y.2) (by decide)) (fun y => by first | (exfalso; omega) | exact absurd (f149.symm.trans y.2) (by decide)) (fun e he => by
                                unfold xs_ew at he
                                rcases he with ⟨e1, e2⟩ | ⟨e1, e2⟩ | ⟨e1, e2⟩
                                · first | (exfalso; omega) | (rw [e2]; exact f186)
                                · first | (exfalso; omega) | (rw [e2]; exact f204)
                                · first | (exfalso; omega) | (rw [e2]; exact f219)) _ (rp_Se h1 rfl (by omega)) (fun to => rp_Ek k1)
                            refine wq_rv d261_233 ?_
                            exact fin
                          · -- pc 213
                            have w210 : w = 6 := by have y := c210; simp only [i_lt, i_le, i_eq, ne_eq, Int32.reduceToInt, b2_0, b2_1, decide_eq_true_eq, decide_eq_false_iff_not, Bool.not_eq_true, Bool.not_eq_false, ew] at y; omega
                            refine wq_l 214 d261_213 rfl rfl rfl rfl ?_
                            refine wq_k 216 127 d261_214 (by decide) rfl ?_
                            refine wq_v 219 [_] d261_216 rfl rfl m224 rfl rfl (Nat.le_of_ble_eq_true rfl) rfl (rp_is (k := 27) hN (by decide) (by decide) hS ?_)
                            refine wq_b 229 222 d261_219 rfl (by decide) rfl (fun c219 => ?_) (fun c219 => ?_)
                            · -- pc 229
                              have f219 := b2z c219
                              refine wq_l 230 d261_229 rfl rfl rfl rfl ?_
                              refine wq_v 233 [] d261_230 rfl rfl m230 rfl rfl (Nat.le_of_ble_eq_true rfl) rfl (rp_ref hN hS (fun σ1 h1 k1 => ?_))
                              have fin := A5 (fun y => by first | (exfalso; omega) | exact absurd (f51.symm.trans y.2) (by decide)) (fun y => by first | (exfalso; omega) | exact absurd (f91.symm.trans y.2) (by decide)) (fun y => by first | (exfalso; omega) | exact absurd (f149.symm.trans y.2) (by decide)) (fun e he => by
                                  unfold xs_ew at he
                                  rcases he with ⟨e1, e2⟩ | ⟨e1, e2⟩ | ⟨e1, e2⟩
                                  · first | (exfalso; omega) | (rw [e2]; exact f186)
                                  · first | (exfalso; omega) | (rw [e2]; exact f204)
                                  · first | (exfalso; omega) | (rw [e2]; exact f219)) _ (rp_Se h1 rfl (by omega)) (fun to => rp_Ek k1)
                              refine wq_rv d261_233 ?_
                              exact fin
                            · -- pc 222
                              have f219 := b2n c219
                              refine wq_l 223 d261_222 rfl rfl rfl rfl ?_
                              refine wq_v 226 [] d261_223 rfl rfl m264 rfl rfl (Nat.le_of_ble_eq_true rfl) rfl (xs264 (w := w) hN h34 hko hS (by first | exact ⟨20, by unfold xs_ew; omega, f186⟩ | exact ⟨22, by unfold xs_ew; omega, f204⟩ | exact ⟨27, by unfold xs_ew; omega, f219⟩) (fun e a1 a2 σ2 b1 b2 b3 b4 => ?_))
                              have fin := A4 e a1 a2 σ2 (rp_Se b1 rfl (by omega)) b2 b3 b4
                              refine wq_g 233 d261_226 (by decide) ?_
                              refine wq_rv d261_233 ?_
                              exact fin
            · -- pc 145
              skip
              exact absurd (by decide) c142
          · -- pc 85
            skip
            exact absurd (by decide) c82
      · -- pc 45
        have w42 : w = 1 := by have y := c42; simp only [i_lt, i_le, i_eq, ne_eq, Int32.reduceToInt, b2_0, b2_1, decide_eq_true_eq, decide_eq_false_iff_not, Bool.not_eq_true, Bool.not_eq_false, ew] at y; omega
        refine wq_l 46 d261_45 rfl rfl rfl rfl ?_
        refine wq_k 48 118 d261_46 (by decide) rfl ?_
        refine wq_v 51 [_] d261_48 rfl rfl m224 rfl rfl (Nat.le_of_ble_eq_true rfl) rfl (rp_is (k := 18) hN (by decide) (by decide) hS ?_)
        refine wq_b 76 54 d261_51 rfl (by decide) rfl (fun c51 => ?_) (fun c51 => ?_)
        · -- pc 76
          have f51 := b2z c51
          refine wq_l 77 d261_76 rfl rfl rfl rfl ?_
          refine wq_k 78 1 d261_77 (by decide) rfl ?_
          refine wq_b 85 81 d261_78 rfl (by decide) rfl (fun c78 => ?_) (fun c78 => ?_)
          · -- pc 85
            have w78 : w = 1 := by have y := c78; simp only [i_lt, i_le, i_eq, ne_eq, Int32.reduceToInt, b2_0, b2_1, decide_eq_true_eq, decide_eq_false_iff_not, Bool.not_eq_true, Bool.not_eq_false, ew] at y; omega
            refine wq_l 86 d261_85 rfl rfl rfl rfl ?_
            refine wq_k 88 119 d261_86 (by decide) rfl ?_
            refine wq_v 91 [_] d261_88 rfl rfl m224 rfl rfl (Nat.le_of_ble_eq_true rfl) rfl (rp_is (k := 19) hN (by decide) (by decide) hS ?_)
            refine wq_b 141 94 d261_91 rfl (by decide) rfl (fun c91 => ?_) (fun c91 => ?_)
            · -- pc 141
              have f91 := b2z c91
              refine wq_l 142 d261_141 rfl rfl rfl rfl ?_
              refine wq_b 170 145 d261_142 rfl (by decide) rfl (fun c142 => ?_) (fun c142 => ?_)
              · -- pc 170
                skip
                refine wq_l 171 d261_170 rfl rfl rfl rfl ?_
                refine wq_k 172 1 d261_171 (by decide) rfl ?_
                refine wq_b 180 175 d261_172 rfl (by decide) rfl (fun c172 => ?_) (fun c172 => ?_)
                · -- pc 180
                  have w172 : w = 1 := by have y := c172; simp only [i_lt, i_le, i_eq, ne_eq, Int32.reduceToInt, b2_0, b2_1, decide_eq_true_eq, decide_eq_false_iff_not, Bool.not_eq_true, Bool.not_eq_false, ew] at y; omega
                  refine wq_l 181 d261_180 rfl rfl rfl rfl ?_
                  refine wq_k 183 120 d261_181 (by decide) rfl ?_
                  refine wq_v 186 [_] d261_183 rfl rfl m224 rfl rfl (Nat.le_of_ble_eq_true rfl) rfl (rp_is (k := 20) hN (by decide) (by decide) hS ?_)
                  refine wq_b 222 189 d261_186 rfl (by decide) rfl (fun c186 => ?_) (fun c186 => ?_)
                  · -- pc 222
                    have f186 := b2n c186
                    refine wq_l 223 d261_222 rfl rfl rfl rfl ?_
                    refine wq_v 226 [] d261_223 rfl rfl m264 rfl rfl (Nat.le_of_ble_eq_true rfl) rfl (xs264 (w := w) hN h34 hko hS (by first | exact ⟨20, by unfold xs_ew; omega, f186⟩ | exact ⟨22, by unfold xs_ew; omega, f204⟩ | exact ⟨27, by unfold xs_ew; omega, f219⟩) (fun e a1 a2 σ2 b1 b2 b3 b4 => ?_))
                    have fin := A4 e a1 a2 σ2 (rp_Se b1 rfl (by omega)) b2 b3 b4
                    refine wq_g 233 d261_226 (by decide) ?_
                    refine wq_rv d261_233 ?_
                    exact fin
                  · -- pc 189
                    have f186 := b2y c186
                    refine wq_l 190 d261_189 rfl rfl rfl rfl ?_
                    refine wq_b 198 193 d261_190 rfl (by decide) rfl (fun c190 => ?_) (fun c190 => ?_)
                    · -- pc 198
                      skip
                      exact absurd c190 (by decide)
                    · -- pc 193
                      skip
                      refine wq_l 194 d261_193 rfl rfl rfl rfl ?_
                      refine wq_k 195 5 d261_194 (by decide) rfl ?_
                      refine wq_b 207 198 d261_195 rfl (by decide) rfl (fun c195 => ?_) (fun c195 => ?_)
                      · -- pc 207
                        have w195 : ¬ w = 5 := by have y := c195; simp only [i_lt, i_le, i_eq, ne_eq, Int32.reduceToInt, b2_0, b2_1, decide_eq_true_eq, decide_eq_false_iff_not, Bool.not_eq_true, Bool.not_eq_false, ew] at y; omega
                        refine wq_l 208 d261_207 rfl rfl rfl rfl ?_
                        refine wq_k 210 6 d261_208 (by decide) rfl ?_
                        refine wq_b 229 213 d261_210 rfl (by decide) rfl (fun c210 => ?_) (fun c210 => ?_)
                        · -- pc 229
                          have w210 : ¬ w = 6 := by have y := c210; simp only [i_lt, i_le, i_eq, ne_eq, Int32.reduceToInt, b2_0, b2_1, decide_eq_true_eq, decide_eq_false_iff_not, Bool.not_eq_true, Bool.not_eq_false, ew] at y; omega
                          refine wq_l 230 d261_229 rfl rfl rfl rfl ?_
                          refine wq_v 233 [] d261_230 rfl rfl m230 rfl rfl (Nat.le_of_ble_eq_true rfl) rfl (rp_ref hN hS (fun σ1 h1 k1 => ?_))
                          have fin := A5 (fun y => by first | (exfalso; omega) | exact absurd (f51.symm.trans y.2) (by decide)) (fun y => by first | (exfalso; omega) | exact absurd (f91.symm.trans y.2) (by decide)) (fun y => by first | (exfalso; omega) | exact absurd (f149.symm.trans y.2) (by decide)) (fun e he => by
                              unfold xs_ew at he
                              rcases he with ⟨e1, e2⟩ | ⟨e1, e2⟩ | ⟨e1, e2⟩
                              · first | (exfalso; omega) | (rw [e2]; exact f186)
                              · first | (exfalso; omega) | (rw [e2]; exact f204)
                              · first | (exfalso; omega) | (rw [e2]; exact f219)) _ (rp_Se h1 rfl (by omega)) (fun to => rp_Ek k1)
                          refine wq_rv d261_233 ?_
                          exact fin
                        · -- pc 213
                          have w210 : w = 6 := by have y := c210; simp only [i_lt, i_le, i_eq, ne_eq, Int32.reduceToInt, b2_0, b2_1, decide_eq_true_eq, decide_eq_false_iff_not, Bool.not_eq_true, Bool.not_eq_false, ew] at y; omega
                          refine wq_l 214 d261_213 rfl rfl rfl rfl ?_
                          refine wq_k 216 127 d261_214 (by decide) rfl ?_
                          refine wq_v 219 [_] d261_216 rfl rfl m224 rfl rfl (Nat.le_of_ble_eq_true rfl) rfl (rp_is (k := 27) hN (by decide) (by decide) hS ?_)
                          refine wq_b 229 222 d261_219 rfl (by decide) rfl (fun c219 => ?_) (fun c219 => ?_)
                          · -- pc 229
                            have f219 := b2z c219
                            refine wq_l 230 d261_229 rfl rfl rfl rfl ?_
                            refine wq_v 233 [] d261_230 rfl rfl m230 rfl rfl (Nat.le_of_ble_eq_true rfl) rfl (rp_ref hN hS (fun σ1 h1 k1 => ?_))
                            have fin := A5 (fun y => by first | (exfalso; omega) | exact absurd (f51.symm.trans y.2) (by decide)) (fun y => by first | (exfalso; omega) | exact absurd (f91.symm.trans y.2) (by decide)) (fun y => by first | (exfalso; omega) | exact absurd (f149.symm.trans y.2) (by decide)) (fun e he => by
                                unfold xs_ew at he
                                rcases he with ⟨e1, e2⟩ | ⟨e1, e2⟩ | ⟨e1, e2⟩
                                · first | (exfalso; omega) | (rw [e2]; exact f186)
                                · first | (exfalso; omega) | (rw [e2]; exact f204)
                                · first | (exfalso; omega) | (rw [e2]; exact f219)) _ (rp_Se h1 rfl (by omega)) (fun to => rp_Ek k1)
                            refine wq_rv d261_233 ?_
                            exact fin
                          · -- pc 222
                            have f219 := b2n c219
                            refine wq_l 223 d261_222 rfl rfl rfl rfl ?_
                            refine wq_v 226 [] d261_223 rfl rfl m264 rfl rfl (Nat.le_of_ble_eq_true rfl) rfl (xs264 (w := w) hN h34 hko hS (by first | exact ⟨20, by unfold xs_ew; omega, f186⟩ | exact ⟨22, by unfold xs_ew; omega, f204⟩ | exact ⟨27, by unfold xs_ew; omega, f219⟩) (fun e a1 a2 σ2 b1 b2 b3 b4 => ?_))
                            have fin := A4 e a1 a2 σ2 (rp_Se b1 rfl (by omega)) b2 b3 b4
                            refine wq_g 233 d261_226 (by decide) ?_
                            refine wq_rv d261_233 ?_
                            exact fin
                      · -- pc 198
                        have w195 : w = 5 := by have y := c195; simp only [i_lt, i_le, i_eq, ne_eq, Int32.reduceToInt, b2_0, b2_1, decide_eq_true_eq, decide_eq_false_iff_not, Bool.not_eq_true, Bool.not_eq_false, ew] at y; omega
                        refine wq_l 199 d261_198 rfl rfl rfl rfl ?_
                        refine wq_k 201 122 d261_199 (by decide) rfl ?_
                        refine wq_v 204 [_] d261_201 rfl rfl m224 rfl rfl (Nat.le_of_ble_eq_true rfl) rfl (rp_is (k := 22) hN (by decide) (by decide) hS ?_)
                        refine wq_b 222 207 d261_204 rfl (by decide) rfl (fun c204 => ?_) (fun c204 => ?_)
                        · -- pc 222
                          have f204 := b2n c204
                          refine wq_l 223 d261_222 rfl rfl rfl rfl ?_
                          refine wq_v 226 [] d261_223 rfl rfl m264 rfl rfl (Nat.le_of_ble_eq_true rfl) rfl (xs264 (w := w) hN h34 hko hS (by first | exact ⟨20, by unfold xs_ew; omega, f186⟩ | exact ⟨22, by unfold xs_ew; omega, f204⟩ | exact ⟨27, by unfold xs_ew; omega, f219⟩) (fun e a1 a2 σ2 b1 b2 b3 b4 => ?_))
                          have fin := A4 e a1 a2 σ2 (rp_Se b1 rfl (by omega)) b2 b3 b4
                          refine wq_g 233 d261_226 (by decide) ?_
                          refine wq_rv d261_233 ?_
                          exact fin
                        · -- pc 207
                          have f204 := b2y c204
                          refine wq_l 208 d261_207 rfl rfl rfl rfl ?_
                          refine wq_k 210 6 d261_208 (by decide) rfl ?_
                          refine wq_b 229 213 d261_210 rfl (by decide) rfl (fun c210 => ?_) (fun c210 => ?_)
                          · -- pc 229
                            have w210 : ¬ w = 6 := by have y := c210; simp only [i_lt, i_le, i_eq, ne_eq, Int32.reduceToInt, b2_0, b2_1, decide_eq_true_eq, decide_eq_false_iff_not, Bool.not_eq_true, Bool.not_eq_false, ew] at y; omega
                            refine wq_l 230 d261_229 rfl rfl rfl rfl ?_
                            refine wq_v 233 [] d261_230 rfl rfl m230 rfl rfl (Nat.le_of_ble_eq_true rfl) rfl (rp_ref hN hS (fun σ1 h1 k1 => ?_))
                            have fin := A5 (fun y => by first | (exfalso; omega) | exact absurd (f51.symm.trans y.2) (by decide)) (fun y => by first | (exfalso; omega) | exact absurd (f91.symm.trans y.2) (by decide)) (fun y => by first | (exfalso; omega) | exact absurd (f149.symm.trans y.2) (by decide)) (fun e he => by
                                unfold xs_ew at he
                                rcases he with ⟨e1, e2⟩ | ⟨e1, e2⟩ | ⟨e1, e2⟩
                                · first | (exfalso; omega) | (rw [e2]; exact f186)
                                · first | (exfalso; omega) | (rw [e2]; exact f204)
                                · first | (exfalso; omega) | (rw [e2]; exact f219)) _ (rp_Se h1 rfl (by omega)) (fun to => rp_Ek k1)
                            refine wq_rv d261_233 ?_
                            exact fin
                          · -- pc 213
                            have w210 : w = 6 := by have y := c210; simp only [i_lt, i_le, i_eq, ne_eq, Int32.reduceToInt, b2_0, b2_1, decide_eq_true_eq, decide_eq_false_iff_not, Bool.not_eq_true, Bool.not_eq_false, ew] at y; omega
                            refine wq_l 214 d261_213 rfl rfl rfl rfl ?_
                            refine wq_k 216 127 d261_214 (by decide) rfl ?_
                            refine wq_v 219 [_] d261_216 rfl rfl m224 rfl rfl (Nat.le_of_ble_eq_true rfl) rfl (rp_is (k := 27) hN (by decide) (by decide) hS ?_)
                            refine wq_b 229 222 d261_219 rfl (by decide) rfl (fun c219 => ?_) (fun c219 => ?_)
                            · -- pc 229
                              have f219 := b2z c219
                              refine wq_l 230 d261_229 rfl rfl rfl rfl ?_
                              refine wq_v 233 [] d261_230 rfl rfl m230 rfl rfl (Nat.le_of_ble_eq_true rfl) rfl (rp_ref hN hS (fun σ1 h1 k1 => ?_))
                              have fin := A5 (fun y => by first | (exfalso; omega) | exact absurd (f51.symm.trans y.2) (by decide)) (fun y => by first | (exfalso; omega) | exact absurd (f91.symm.trans y.2) (by decide)) (fun y => by first | (exfalso; omega) | exact absurd (f149.symm.trans y.2) (by decide)) (fun e he => by
                                  unfold xs_ew at he
                                  rcases he with ⟨e1, e2⟩ | ⟨e1, e2⟩ | ⟨e1, e2⟩
                                  · first | (exfalso; omega) | (rw [e2]; exact f186)
                                  · first | (exfalso; omega) | (rw [e2]; exact f204)
                                  · first | (exfalso; omega) | (rw [e2]; exact f219)) _ (rp_Se h1 rfl (by omega)) (fun to => rp_Ek k1)
                              refine wq_rv d261_233 ?_
                              exact fin
                            · -- pc 222
                              have f219 := b2n c219
                              refine wq_l 223 d261_222 rfl rfl rfl rfl ?_
                              refine wq_v 226 [] d261_223 rfl rfl m264 rfl rfl (Nat.le_of_ble_eq_true rfl) rfl (xs264 (w := w) hN h34 hko hS (by first | exact ⟨20, by unfold xs_ew; omega, f186⟩ | exact ⟨22, by unfold xs_ew; omega, f204⟩ | exact ⟨27, by unfold xs_ew; omega, f219⟩) (fun e a1 a2 σ2 b1 b2 b3 b4 => ?_))
                              have fin := A4 e a1 a2 σ2 (rp_Se b1 rfl (by omega)) b2 b3 b4
                              refine wq_g 233 d261_226 (by decide) ?_
                              refine wq_rv d261_233 ?_
                              exact fin
                · -- pc 175
                  have w172 : ¬ w = 1 := by have y := c172; simp only [i_lt, i_le, i_eq, ne_eq, Int32.reduceToInt, b2_0, b2_1, decide_eq_true_eq, decide_eq_false_iff_not, Bool.not_eq_true, Bool.not_eq_false, ew] at y; omega
                  exfalso; omega
              · -- pc 145
                skip
                exact absurd (by decide) c142
            · -- pc 94
              have f91 := b2n c91
              refine wq_l 95 d261_94 rfl rfl rfl rfl ?_
              refine wq_gi (ci := 10) (j := 4) 98 d261_95 rfl rfl rfl rfl ?_
              refine wq_s 100 d261_98 rfl rfl (Nat.le_of_ble_eq_true rfl) rfl rfl ?_
              refine wq_l 101 d261_100 rfl rfl rfl rfl ?_
              refine wq_v 104 [] d261_101 rfl rfl m203 rfl rfl (Nat.le_of_ble_eq_true rfl) rfl (rp_go hN (pg_isl f91 (by decide)) hS (fun σ1 h1 k1 => ?_))
              refine wq_l 105 d261_104 rfl rfl rfl rfl ?_
              refine wq_a 106 d261_105 rfl rfl ?_
              refine wq_gi (ci := 10) (j := 34) 109 d261_106 rfl rfl rfl rfl ?_
              first | rw [h34] | rw [show σ1.1 10 34 = nI (k + 1) from (xs_k34 k1).trans h34]
              refine wq_k 110 1 d261_109 (by decide) rfl ?_
              refine wq_a 111 d261_110 rfl rfl ?_
              rw [nI_pred]
              refine wq_pf (ci := 10) (j := 34) 114 d261_111 rfl rfl rfl ⟨rfl, rfl⟩ rfl ?_
              have h2 := xs_Sq (xs_qi (x := nI k)) h1
              refine wq_l 115 d261_114 rfl rfl rfl rfl ?_
              refine wq_l 116 d261_115 rfl rfl rfl rfl ?_
              refine wq_b 123 119 d261_116 rfl (by decide) rfl (fun c116 => ?_) (fun c116 => ?_)
              · -- pc 123
                skip
                refine wq_k 124 2 d261_123 (by decide) rfl ?_
                refine wq_l 125 d261_124 rfl rfl rfl rfl ?_
                refine wq_l 126 d261_125 rfl rfl rfl rfl ?_
                refine wq_l 127 d261_126 rfl rfl rfl rfl ?_
                refine wq_k 129 11 d261_127 (by decide) rfl ?_
                refine wq_l 131 d261_129 rfl rfl rfl rfl ?_
                refine wq_k 132 0 d261_131 (by decide) rfl ?_
                refine wq_v 135 [_, _, _, _] d261_132 rfl rfl m226 rfl rfl (Nat.le_of_ble_eq_true rfl) rfl (rp_mkin (to := nd) hN (by omega) hnd h2 (fun σ3 h3 m3 => ?_))
                refine wq_v 138 [_, _, _] d261_135 rfl rfl m258 rfl rfl (Nat.le_of_ble_eq_true rfl) rfl (sp258 (k := k) (by rw [xs_d34 m3.1]; rfl) (by omega) ?_)
                have o2 := xs_obq (nn := nd) (w := 2) (k := k) k1 (xs_qi (x := nI k)) (fun j hj => ⟨rfl, rfl, rfl⟩) (xs_obm (σ := pm_pi σ1 10 34 (nI k)) (h := h) (nd := nd) (l := []) (c2 := pg_stp c) rp_Ewr xs_Nr m3 (fun w => by rw [xs_bps hl]; exact hpl))
                have fin := A3 (by omega) f91 _ _ _ (by rw [if_pos (by omega)]; exact o2) (rp_Se (xs_Sq xs_qp h3) rfl (by omega))
                refine wq_g 233 d261_138 (by decide) ?_
                refine wq_rv d261_233 ?_
                exact fin
              · -- pc 119
                skip
                exact absurd (by decide) c116
          · -- pc 81
            have w78 : ¬ w = 1 := by have y := c78; simp only [i_lt, i_le, i_eq, ne_eq, Int32.reduceToInt, b2_0, b2_1, decide_eq_true_eq, decide_eq_false_iff_not, Bool.not_eq_true, Bool.not_eq_false, ew] at y; omega
            exfalso; omega
        · -- pc 54
          have f51 := b2n c51
          refine wq_l 55 d261_54 rfl rfl rfl rfl ?_
          refine wq_v 58 [] d261_55 rfl rfl m203 rfl rfl (Nat.le_of_ble_eq_true rfl) rfl (rp_go hN (pg_isl f51 (by decide)) hS (fun σ1 h1 k1 => ?_))
          refine wq_l 59 d261_58 rfl rfl rfl rfl ?_
          refine wq_a 60 d261_59 rfl rfl ?_
          refine wq_gi (ci := 10) (j := 34) 63 d261_60 rfl rfl rfl rfl ?_
          first | rw [h34] | rw [show σ1.1 10 34 = nI (k + 1) from (xs_k34 k1).trans h34]
          refine wq_k 64 1 d261_63 (by decide) rfl ?_
          refine wq_a 65 d261_64 rfl rfl ?_
          rw [nI_pred]
          refine wq_pf (ci := 10) (j := 34) 68 d261_65 rfl rfl rfl ⟨rfl, rfl⟩ rfl ?_
          have h2 := xs_Sq (xs_qi (x := nI k)) h1
          refine wq_l 69 d261_68 rfl rfl rfl rfl ?_
          refine wq_l 70 d261_69 rfl rfl rfl rfl ?_
          refine wq_v 73 [_] d261_70 rfl rfl m257 rfl rfl (Nat.le_of_ble_eq_true rfl) rfl (rp257 (s := s) hN (by omega) hnd rfl (by omega) h2 (fun σ2 h3 b2 o hS2 => ?_))
          have o2 := xs_obq k1 (xs_qi (x := nI k)) (fun j hj => ⟨rfl, rfl, rfl⟩) o
          have fin := A2 w42 f51 _ _ _ o2 (rp_Se hS2 rfl (by omega))
          refine wq_g 233 d261_73 (by decide) ?_
          refine wq_rv d261_233 ?_
          exact fin
    · -- pc 34
      have w31 : w = 4 := by have y := c31; simp only [i_lt, i_le, i_eq, ne_eq, Int32.reduceToInt, b2_0, b2_1, decide_eq_true_eq, decide_eq_false_iff_not, Bool.not_eq_true, Bool.not_eq_false, ew] at y; omega
      refine wq_k 35 1 d261_34 (by decide) rfl ?_
      refine wq_g 39 d261_35 (by decide) ?_
      refine wq_s 40 d261_39 rfl rfl (Nat.le_of_ble_eq_true rfl) rfl rfl ?_
      refine wq_l 41 d261_40 rfl rfl rfl rfl ?_
      refine wq_k 42 1 d261_41 (by decide) rfl ?_
      refine wq_b 76 45 d261_42 rfl (by decide) rfl (fun c42 => ?_) (fun c42 => ?_)
      · -- pc 76
        have w42 : ¬ w = 1 := by have y := c42; simp only [i_lt, i_le, i_eq, ne_eq, Int32.reduceToInt, b2_0, b2_1, decide_eq_true_eq, decide_eq_false_iff_not, Bool.not_eq_true, Bool.not_eq_false, ew] at y; omega
        refine wq_l 77 d261_76 rfl rfl rfl rfl ?_
        refine wq_k 78 1 d261_77 (by decide) rfl ?_
        refine wq_b 85 81 d261_78 rfl (by decide) rfl (fun c78 => ?_) (fun c78 => ?_)
        · -- pc 85
          have w78 : w = 1 := by have y := c78; simp only [i_lt, i_le, i_eq, ne_eq, Int32.reduceToInt, b2_0, b2_1, decide_eq_true_eq, decide_eq_false_iff_not, Bool.not_eq_true, Bool.not_eq_false, ew] at y; omega
          exfalso; omega
        · -- pc 81
          have w78 : ¬ w = 1 := by have y := c78; simp only [i_lt, i_le, i_eq, ne_eq, Int32.reduceToInt, b2_0, b2_1, decide_eq_true_eq, decide_eq_false_iff_not, Bool.not_eq_true, Bool.not_eq_false, ew] at y; omega
          refine wq_l 82 d261_81 rfl rfl rfl rfl ?_
          refine wq_b 141 85 d261_82 rfl (by decide) rfl (fun c82 => ?_) (fun c82 => ?_)
          · -- pc 141
            skip
            exact absurd c82 (by decide)
          · -- pc 85
            skip
            refine wq_l 86 d261_85 rfl rfl rfl rfl ?_
            refine wq_k 88 119 d261_86 (by decide) rfl ?_
            refine wq_v 91 [_] d261_88 rfl rfl m224 rfl rfl (Nat.le_of_ble_eq_true rfl) rfl (rp_is (k := 19) hN (by decide) (by decide) hS ?_)
            refine wq_b 141 94 d261_91 rfl (by decide) rfl (fun c91 => ?_) (fun c91 => ?_)
            · -- pc 141
              have f91 := b2z c91
              refine wq_l 142 d261_141 rfl rfl rfl rfl ?_
              refine wq_b 170 145 d261_142 rfl (by decide) rfl (fun c142 => ?_) (fun c142 => ?_)
              · -- pc 170
                skip
                exact absurd c142 (by decide)
              · -- pc 145
                skip
                refine wq_l 146 d261_145 rfl rfl rfl rfl ?_
                refine wq_v 149 [] d261_146 rfl rfl m262 rfl rfl (Nat.le_of_ble_eq_true rfl) rfl (rp262 hN hS ?_)
                refine wq_b 170 152 d261_149 rfl (by decide) rfl (fun c149 => ?_) (fun c149 => ?_)
                · -- pc 170
                  have f149 := b2z c149
                  refine wq_l 171 d261_170 rfl rfl rfl rfl ?_
                  refine wq_k 172 1 d261_171 (by decide) rfl ?_
                  refine wq_b 180 175 d261_172 rfl (by decide) rfl (fun c172 => ?_) (fun c172 => ?_)
                  · -- pc 180
                    have w172 : w = 1 := by have y := c172; simp only [i_lt, i_le, i_eq, ne_eq, Int32.reduceToInt, b2_0, b2_1, decide_eq_true_eq, decide_eq_false_iff_not, Bool.not_eq_true, Bool.not_eq_false, ew] at y; omega
                    exfalso; omega
                  · -- pc 175
                    have w172 : ¬ w = 1 := by have y := c172; simp only [i_lt, i_le, i_eq, ne_eq, Int32.reduceToInt, b2_0, b2_1, decide_eq_true_eq, decide_eq_false_iff_not, Bool.not_eq_true, Bool.not_eq_false, ew] at y; omega
                    refine wq_l 176 d261_175 rfl rfl rfl rfl ?_
                    refine wq_k 177 2 d261_176 (by decide) rfl ?_
                    refine wq_b 189 180 d261_177 rfl (by decide) rfl (fun c177 => ?_) (fun c177 => ?_)
                    · -- pc 189
                      have w177 : ¬ w = 2 := by have y := c177; simp only [i_lt, i_le, i_eq, ne_eq, Int32.reduceToInt, b2_0, b2_1, decide_eq_true_eq, decide_eq_false_iff_not, Bool.not_eq_true, Bool.not_eq_false, ew] at y; omega
                      refine wq_l 190 d261_189 rfl rfl rfl rfl ?_
                      refine wq_b 198 193 d261_190 rfl (by decide) rfl (fun c190 => ?_) (fun c190 => ?_)
                      · -- pc 198
                        skip
                        refine wq_l 199 d261_198 rfl rfl rfl rfl ?_
                        refine wq_k 201 122 d261_199 (by decide) rfl ?_
                        refine wq_v 204 [_] d261_201 rfl rfl m224 rfl rfl (Nat.le_of_ble_eq_true rfl) rfl (rp_is (k := 22) hN (by decide) (by decide) hS ?_)
                        refine wq_b 222 207 d261_204 rfl (by decide) rfl (fun c204 => ?_) (fun c204 => ?_)
                        · -- pc 222
                          have f204 := b2n c204
                          refine wq_l 223 d261_222 rfl rfl rfl rfl ?_
                          refine wq_v 226 [] d261_223 rfl rfl m264 rfl rfl (Nat.le_of_ble_eq_true rfl) rfl (xs264 (w := w) hN h34 hko hS (by first | exact ⟨20, by unfold xs_ew; omega, f186⟩ | exact ⟨22, by unfold xs_ew; omega, f204⟩ | exact ⟨27, by unfold xs_ew; omega, f219⟩) (fun e a1 a2 σ2 b1 b2 b3 b4 => ?_))
                          have fin := A4 e a1 a2 σ2 (rp_Se b1 rfl (by omega)) b2 b3 b4
                          refine wq_g 233 d261_226 (by decide) ?_
                          refine wq_rv d261_233 ?_
                          exact fin
                        · -- pc 207
                          have f204 := b2y c204
                          refine wq_l 208 d261_207 rfl rfl rfl rfl ?_
                          refine wq_k 210 6 d261_208 (by decide) rfl ?_
                          refine wq_b 229 213 d261_210 rfl (by decide) rfl (fun c210 => ?_) (fun c210 => ?_)
                          · -- pc 229
                            have w210 : ¬ w = 6 := by have y := c210; simp only [i_lt, i_le, i_eq, ne_eq, Int32.reduceToInt, b2_0, b2_1, decide_eq_true_eq, decide_eq_false_iff_not, Bool.not_eq_true, Bool.not_eq_false, ew] at y; omega
                            refine wq_l 230 d261_229 rfl rfl rfl rfl ?_
                            refine wq_v 233 [] d261_230 rfl rfl m230 rfl rfl (Nat.le_of_ble_eq_true rfl) rfl (rp_ref hN hS (fun σ1 h1 k1 => ?_))
                            have fin := A5 (fun y => by first | (exfalso; omega) | exact absurd (f51.symm.trans y.2) (by decide)) (fun y => by first | (exfalso; omega) | exact absurd (f91.symm.trans y.2) (by decide)) (fun y => by first | (exfalso; omega) | exact absurd (f149.symm.trans y.2) (by decide)) (fun e he => by
                                unfold xs_ew at he
                                rcases he with ⟨e1, e2⟩ | ⟨e1, e2⟩ | ⟨e1, e2⟩
                                · first | (exfalso; omega) | (rw [e2]; exact f186)
                                · first | (exfalso; omega) | (rw [e2]; exact f204)
                                · first | (exfalso; omega) | (rw [e2]; exact f219)) _ (rp_Se h1 rfl (by omega)) (fun to => rp_Ek k1)
                            refine wq_rv d261_233 ?_
                            exact fin
                          · -- pc 213
                            have w210 : w = 6 := by have y := c210; simp only [i_lt, i_le, i_eq, ne_eq, Int32.reduceToInt, b2_0, b2_1, decide_eq_true_eq, decide_eq_false_iff_not, Bool.not_eq_true, Bool.not_eq_false, ew] at y; omega
                            refine wq_l 214 d261_213 rfl rfl rfl rfl ?_
                            refine wq_k 216 127 d261_214 (by decide) rfl ?_
                            refine wq_v 219 [_] d261_216 rfl rfl m224 rfl rfl (Nat.le_of_ble_eq_true rfl) rfl (rp_is (k := 27) hN (by decide) (by decide) hS ?_)
                            refine wq_b 229 222 d261_219 rfl (by decide) rfl (fun c219 => ?_) (fun c219 => ?_)
                            · -- pc 229
                              have f219 := b2z c219
                              refine wq_l 230 d261_229 rfl rfl rfl rfl ?_
                              refine wq_v 233 [] d261_230 rfl rfl m230 rfl rfl (Nat.le_of_ble_eq_true rfl) rfl (rp_ref hN hS (fun σ1 h1 k1 => ?_))
                              have fin := A5 (fun y => by first | (exfalso; omega) | exact absurd (f51.symm.trans y.2) (by decide)) (fun y => by first | (exfalso; omega) | exact absurd (f91.symm.trans y.2) (by decide)) (fun y => by first | (exfalso; omega) | exact absurd (f149.symm.trans y.2) (by decide)) (fun e he => by
                                  unfold xs_ew at he
                                  rcases he with ⟨e1, e2⟩ | ⟨e1, e2⟩ | ⟨e1, e2⟩
                                  · first | (exfalso; omega) | (rw [e2]; exact f186)
                                  · first | (exfalso; omega) | (rw [e2]; exact f204)
                                  · first | (exfalso; omega) | (rw [e2]; exact f219)) _ (rp_Se h1 rfl (by omega)) (fun to => rp_Ek k1)
                              refine wq_rv d261_233 ?_
                              exact fin
                            · -- pc 222
                              have f219 := b2n c219
                              refine wq_l 223 d261_222 rfl rfl rfl rfl ?_
                              refine wq_v 226 [] d261_223 rfl rfl m264 rfl rfl (Nat.le_of_ble_eq_true rfl) rfl (xs264 (w := w) hN h34 hko hS (by first | exact ⟨20, by unfold xs_ew; omega, f186⟩ | exact ⟨22, by unfold xs_ew; omega, f204⟩ | exact ⟨27, by unfold xs_ew; omega, f219⟩) (fun e a1 a2 σ2 b1 b2 b3 b4 => ?_))
                              have fin := A4 e a1 a2 σ2 (rp_Se b1 rfl (by omega)) b2 b3 b4
                              refine wq_g 233 d261_226 (by decide) ?_
                              refine wq_rv d261_233 ?_
                              exact fin
                      · -- pc 193
                        skip
                        exact absurd (by decide) c190
                    · -- pc 180
                      have w177 : w = 2 := by have y := c177; simp only [i_lt, i_le, i_eq, ne_eq, Int32.reduceToInt, b2_0, b2_1, decide_eq_true_eq, decide_eq_false_iff_not, Bool.not_eq_true, Bool.not_eq_false, ew] at y; omega
                      refine wq_l 181 d261_180 rfl rfl rfl rfl ?_
                      refine wq_k 183 120 d261_181 (by decide) rfl ?_
                      refine wq_v 186 [_] d261_183 rfl rfl m224 rfl rfl (Nat.le_of_ble_eq_true rfl) rfl (rp_is (k := 20) hN (by decide) (by decide) hS ?_)
                      refine wq_b 222 189 d261_186 rfl (by decide) rfl (fun c186 => ?_) (fun c186 => ?_)
                      · -- pc 222
                        have f186 := b2n c186
                        refine wq_l 223 d261_222 rfl rfl rfl rfl ?_
                        refine wq_v 226 [] d261_223 rfl rfl m264 rfl rfl (Nat.le_of_ble_eq_true rfl) rfl (xs264 (w := w) hN h34 hko hS (by first | exact ⟨20, by unfold xs_ew; omega, f186⟩ | exact ⟨22, by unfold xs_ew; omega, f204⟩ | exact ⟨27, by unfold xs_ew; omega, f219⟩) (fun e a1 a2 σ2 b1 b2 b3 b4 => ?_))
                        have fin := A4 e a1 a2 σ2 (rp_Se b1 rfl (by omega)) b2 b3 b4
                        refine wq_g 233 d261_226 (by decide) ?_
                        refine wq_rv d261_233 ?_
                        exact fin
                      · -- pc 189
                        have f186 := b2y c186
                        refine wq_l 190 d261_189 rfl rfl rfl rfl ?_
                        refine wq_b 198 193 d261_190 rfl (by decide) rfl (fun c190 => ?_) (fun c190 => ?_)
                        · -- pc 198
                          skip
                          refine wq_l 199 d261_198 rfl rfl rfl rfl ?_
                          refine wq_k 201 122 d261_199 (by decide) rfl ?_
                          refine wq_v 204 [_] d261_201 rfl rfl m224 rfl rfl (Nat.le_of_ble_eq_true rfl) rfl (rp_is (k := 22) hN (by decide) (by decide) hS ?_)
                          refine wq_b 222 207 d261_204 rfl (by decide) rfl (fun c204 => ?_) (fun c204 => ?_)
                          · -- pc 222
                            have f204 := b2n c204
                            refine wq_l 223 d261_222 rfl rfl rfl rfl ?_
                            refine wq_v 226 [] d261_223 rfl rfl m264 rfl rfl (Nat.le_of_ble_eq_true rfl) rfl (xs264 (w := w) hN h34 hko hS (by first | exact ⟨20, by unfold xs_ew; omega, f186⟩ | exact ⟨22, by unfold xs_ew; omega, f204⟩ | exact ⟨27, by unfold xs_ew; omega, f219⟩) (fun e a1 a2 σ2 b1 b2 b3 b4 => ?_))
                            have fin := A4 e a1 a2 σ2 (rp_Se b1 rfl (by omega)) b2 b3 b4
                            refine wq_g 233 d261_226 (by decide) ?_
                            refine wq_rv d261_233 ?_
                            exact fin
                          · -- pc 207
                            have f204 := b2y c204
                            refine wq_l 208 d261_207 rfl rfl rfl rfl ?_
                            refine wq_k 210 6 d261_208 (by decide) rfl ?_
                            refine wq_b 229 213 d261_210 rfl (by decide) rfl (fun c210 => ?_) (fun c210 => ?_)
                            · -- pc 229
                              have w210 : ¬ w = 6 := by have y := c210; simp only [i_lt, i_le, i_eq, ne_eq, Int32.reduceToInt, b2_0, b2_1, decide_eq_true_eq, decide_eq_false_iff_not, Bool.not_eq_true, Bool.not_eq_false, ew] at y; omega
                              refine wq_l 230 d261_229 rfl rfl rfl rfl ?_
                              refine wq_v 233 [] d261_230 rfl rfl m230 rfl rfl (Nat.le_of_ble_eq_true rfl) rfl (rp_ref hN hS (fun σ1 h1 k1 => ?_))
                              have fin := A5 (fun y => by first | (exfalso; omega) | exact absurd (f51.symm.trans y.2) (by decide)) (fun y => by first | (exfalso; omega) | exact absurd (f91.symm.trans y.2) (by decide)) (fun y => by first | (exfalso; omega) | exact absurd (f149.symm.trans y.2) (by decide)) (fun e he => by
                                  unfold xs_ew at he
                                  rcases he with ⟨e1, e2⟩ | ⟨e1, e2⟩ | ⟨e1, e2⟩
                                  · first | (exfalso; omega) | (rw [e2]; exact f186)
                                  · first | (exfalso; omega) | (rw [e2]; exact f204)
                                  · first | (exfalso; omega) | (rw [e2]; exact f219)) _ (rp_Se h1 rfl (by omega)) (fun to => rp_Ek k1)
                              refine wq_rv d261_233 ?_
                              exact fin
                            · -- pc 213
                              have w210 : w = 6 := by have y := c210; simp only [i_lt, i_le, i_eq, ne_eq, Int32.reduceToInt, b2_0, b2_1, decide_eq_true_eq, decide_eq_false_iff_not, Bool.not_eq_true, Bool.not_eq_false, ew] at y; omega
                              refine wq_l 214 d261_213 rfl rfl rfl rfl ?_
                              refine wq_k 216 127 d261_214 (by decide) rfl ?_
                              refine wq_v 219 [_] d261_216 rfl rfl m224 rfl rfl (Nat.le_of_ble_eq_true rfl) rfl (rp_is (k := 27) hN (by decide) (by decide) hS ?_)
                              refine wq_b 229 222 d261_219 rfl (by decide) rfl (fun c219 => ?_) (fun c219 => ?_)
                              · -- pc 229
                                have f219 := b2z c219
                                refine wq_l 230 d261_229 rfl rfl rfl rfl ?_
                                refine wq_v 233 [] d261_230 rfl rfl m230 rfl rfl (Nat.le_of_ble_eq_true rfl) rfl (rp_ref hN hS (fun σ1 h1 k1 => ?_))
                                have fin := A5 (fun y => by first | (exfalso; omega) | exact absurd (f51.symm.trans y.2) (by decide)) (fun y => by first | (exfalso; omega) | exact absurd (f91.symm.trans y.2) (by decide)) (fun y => by first | (exfalso; omega) | exact absurd (f149.symm.trans y.2) (by decide)) (fun e he => by
                                    unfold xs_ew at he
                                    rcases he with ⟨e1, e2⟩ | ⟨e1, e2⟩ | ⟨e1, e2⟩
                                    · first | (exfalso; omega) | (rw [e2]; exact f186)
                                    · first | (exfalso; omega) | (rw [e2]; exact f204)
                                    · first | (exfalso; omega) | (rw [e2]; exact f219)) _ (rp_Se h1 rfl (by omega)) (fun to => rp_Ek k1)
                                refine wq_rv d261_233 ?_
                                exact fin
                              · -- pc 222
                                have f219 := b2n c219
                                refine wq_l 223 d261_222 rfl rfl rfl rfl ?_
                                refine wq_v 226 [] d261_223 rfl rfl m264 rfl rfl (Nat.le_of_ble_eq_true rfl) rfl (xs264 (w := w) hN h34 hko hS (by first | exact ⟨20, by unfold xs_ew; omega, f186⟩ | exact ⟨22, by unfold xs_ew; omega, f204⟩ | exact ⟨27, by unfold xs_ew; omega, f219⟩) (fun e a1 a2 σ2 b1 b2 b3 b4 => ?_))
                                have fin := A4 e a1 a2 σ2 (rp_Se b1 rfl (by omega)) b2 b3 b4
                                refine wq_g 233 d261_226 (by decide) ?_
                                refine wq_rv d261_233 ?_
                                exact fin
                        · -- pc 193
                          skip
                          exact absurd (by decide) c190
                · -- pc 152
                  have f149 := b2n c149
                  refine wq_l 153 d261_152 rfl rfl rfl rfl ?_
                  refine wq_a 154 d261_153 rfl rfl ?_
                  refine wq_gi (ci := 10) (j := 34) 157 d261_154 rfl rfl rfl rfl ?_
                  first | rw [h34] | rw [show σ1.1 10 34 = nI (k + 1) from (xs_k34 k1).trans h34]
                  refine wq_k 158 1 d261_157 (by decide) rfl ?_
                  refine wq_a 159 d261_158 rfl rfl ?_
                  rw [nI_pred]
                  refine wq_pf (ci := 10) (j := 34) 162 d261_159 rfl rfl rfl ⟨rfl, rfl⟩ rfl ?_
                  have h2 := xs_Sq (xs_qi (x := nI k)) hS
                  refine wq_l 163 d261_162 rfl rfl rfl rfl ?_
                  refine wq_l 164 d261_163 rfl rfl rfl rfl ?_
                  refine wq_v 167 [_] d261_164 rfl rfl m263 rfl rfl (Nat.le_of_ble_eq_true rfl) rfl (rp263 (s := s) hN (by omega) hnd hc1 rfl (by omega) h2 z (fun σa y σ2 h3 b2 m3 hy o hS2 => ?_))
                  have fin := A7 (by omega) f149 _ _ _ _ _ _ (xs_qi (x := nI k)) (fun j hj => ⟨rfl, rfl, rfl⟩) m3 hy o (rp_Se hS2 rfl (by omega))
                  refine wq_g 233 d261_167 (by decide) ?_
                  refine wq_rv d261_233 ?_
                  exact fin
            · -- pc 94
              have f91 := b2n c91
              refine wq_l 95 d261_94 rfl rfl rfl rfl ?_
              refine wq_gi (ci := 10) (j := 4) 98 d261_95 rfl rfl rfl rfl ?_
              refine wq_s 100 d261_98 rfl rfl (Nat.le_of_ble_eq_true rfl) rfl rfl ?_
              refine wq_l 101 d261_100 rfl rfl rfl rfl ?_
              refine wq_v 104 [] d261_101 rfl rfl m203 rfl rfl (Nat.le_of_ble_eq_true rfl) rfl (rp_go hN (pg_isl f91 (by decide)) hS (fun σ1 h1 k1 => ?_))
              refine wq_l 105 d261_104 rfl rfl rfl rfl ?_
              refine wq_a 106 d261_105 rfl rfl ?_
              refine wq_gi (ci := 10) (j := 34) 109 d261_106 rfl rfl rfl rfl ?_
              first | rw [h34] | rw [show σ1.1 10 34 = nI (k + 1) from (xs_k34 k1).trans h34]
              refine wq_k 110 1 d261_109 (by decide) rfl ?_
              refine wq_a 111 d261_110 rfl rfl ?_
              rw [nI_pred]
              refine wq_pf (ci := 10) (j := 34) 114 d261_111 rfl rfl rfl ⟨rfl, rfl⟩ rfl ?_
              have h2 := xs_Sq (xs_qi (x := nI k)) h1
              refine wq_l 115 d261_114 rfl rfl rfl rfl ?_
              refine wq_l 116 d261_115 rfl rfl rfl rfl ?_
              refine wq_b 123 119 d261_116 rfl (by decide) rfl (fun c116 => ?_) (fun c116 => ?_)
              · -- pc 123
                skip
                exact absurd c116 (by decide)
              · -- pc 119
                skip
                refine wq_k 120 5 d261_119 (by decide) rfl ?_
                refine wq_g 124 d261_120 (by decide) ?_
                refine wq_l 125 d261_124 rfl rfl rfl rfl ?_
                refine wq_l 126 d261_125 rfl rfl rfl rfl ?_
                refine wq_l 127 d261_126 rfl rfl rfl rfl ?_
                refine wq_k 129 11 d261_127 (by decide) rfl ?_
                refine wq_l 131 d261_129 rfl rfl rfl rfl ?_
                refine wq_k 132 0 d261_131 (by decide) rfl ?_
                refine wq_v 135 [_, _, _, _] d261_132 rfl rfl m226 rfl rfl (Nat.le_of_ble_eq_true rfl) rfl (rp_mkin (to := nd) hN (by omega) hnd h2 (fun σ3 h3 m3 => ?_))
                refine wq_v 138 [_, _, _] d261_135 rfl rfl m258 rfl rfl (Nat.le_of_ble_eq_true rfl) rfl (sp258 (k := k) (by rw [xs_d34 m3.1]; rfl) (by omega) ?_)
                have o2 := xs_obq (nn := nd) (w := 5) (k := k) k1 (xs_qi (x := nI k)) (fun j hj => ⟨rfl, rfl, rfl⟩) (xs_obm (σ := pm_pi σ1 10 34 (nI k)) (h := h) (nd := nd) (l := []) (c2 := pg_stp c) rp_Ewr xs_Nr m3 (fun w => by rw [xs_bps hl]; exact hpl))
                have fin := A3 (by omega) f91 _ _ _ (by rw [if_neg (by omega)]; exact o2) (rp_Se (xs_Sq xs_qp h3) rfl (by omega))
                refine wq_g 233 d261_138 (by decide) ?_
                refine wq_rv d261_233 ?_
                exact fin
      · -- pc 45
        have w42 : w = 1 := by have y := c42; simp only [i_lt, i_le, i_eq, ne_eq, Int32.reduceToInt, b2_0, b2_1, decide_eq_true_eq, decide_eq_false_iff_not, Bool.not_eq_true, Bool.not_eq_false, ew] at y; omega
        refine wq_l 46 d261_45 rfl rfl rfl rfl ?_
        refine wq_k 48 118 d261_46 (by decide) rfl ?_
        refine wq_v 51 [_] d261_48 rfl rfl m224 rfl rfl (Nat.le_of_ble_eq_true rfl) rfl (rp_is (k := 18) hN (by decide) (by decide) hS ?_)
        refine wq_b 76 54 d261_51 rfl (by decide) rfl (fun c51 => ?_) (fun c51 => ?_)
        · -- pc 76
          have f51 := b2z c51
          refine wq_l 77 d261_76 rfl rfl rfl rfl ?_
          refine wq_k 78 1 d261_77 (by decide) rfl ?_
          refine wq_b 85 81 d261_78 rfl (by decide) rfl (fun c78 => ?_) (fun c78 => ?_)
          · -- pc 85
            have w78 : w = 1 := by have y := c78; simp only [i_lt, i_le, i_eq, ne_eq, Int32.reduceToInt, b2_0, b2_1, decide_eq_true_eq, decide_eq_false_iff_not, Bool.not_eq_true, Bool.not_eq_false, ew] at y; omega
            refine wq_l 86 d261_85 rfl rfl rfl rfl ?_
            refine wq_k 88 119 d261_86 (by decide) rfl ?_
            refine wq_v 91 [_] d261_88 rfl rfl m224 rfl rfl (Nat.le_of_ble_eq_true rfl) rfl (rp_is (k := 19) hN (by decide) (by decide) hS ?_)
            refine wq_b 141 94 d261_91 rfl (by decide) rfl (fun c91 => ?_) (fun c91 => ?_)
            · -- pc 141
              have f91 := b2z c91
              refine wq_l 142 d261_141 rfl rfl rfl rfl ?_
              refine wq_b 170 145 d261_142 rfl (by decide) rfl (fun c142 => ?_) (fun c142 => ?_)
              · -- pc 170
                skip
                exact absurd c142 (by decide)
              · -- pc 145
                skip
                refine wq_l 146 d261_145 rfl rfl rfl rfl ?_
                refine wq_v 149 [] d261_146 rfl rfl m262 rfl rfl (Nat.le_of_ble_eq_true rfl) rfl (rp262 hN hS ?_)
                refine wq_b 170 152 d261_149 rfl (by decide) rfl (fun c149 => ?_) (fun c149 => ?_)
                · -- pc 170
                  have f149 := b2z c149
                  refine wq_l 171 d261_170 rfl rfl rfl rfl ?_
                  refine wq_k 172 1 d261_171 (by decide) rfl ?_
                  refine wq_b 180 175 d261_172 rfl (by decide) rfl (fun c172 => ?_) (fun c172 => ?_)
                  · -- pc 180
                    have w172 : w = 1 := by have y := c172; simp only [i_lt, i_le, i_eq, ne_eq, Int32.reduceToInt, b2_0, b2_1, decide_eq_true_eq, decide_eq_false_iff_not, Bool.not_eq_true, Bool.not_eq_false, ew] at y; omega
                    refine wq_l 181 d261_180 rfl rfl rfl rfl ?_
                    refine wq_k 183 120 d261_181 (by decide) rfl ?_
                    refine wq_v 186 [_] d261_183 rfl rfl m224 rfl rfl (Nat.le_of_ble_eq_true rfl) rfl (rp_is (k := 20) hN (by decide) (by decide) hS ?_)
                    refine wq_b 222 189 d261_186 rfl (by decide) rfl (fun c186 => ?_) (fun c186 => ?_)
                    · -- pc 222
                      have f186 := b2n c186
                      refine wq_l 223 d261_222 rfl rfl rfl rfl ?_
                      refine wq_v 226 [] d261_223 rfl rfl m264 rfl rfl (Nat.le_of_ble_eq_true rfl) rfl (xs264 (w := w) hN h34 hko hS (by first | exact ⟨20, by unfold xs_ew; omega, f186⟩ | exact ⟨22, by unfold xs_ew; omega, f204⟩ | exact ⟨27, by unfold xs_ew; omega, f219⟩) (fun e a1 a2 σ2 b1 b2 b3 b4 => ?_))
                      have fin := A4 e a1 a2 σ2 (rp_Se b1 rfl (by omega)) b2 b3 b4
                      refine wq_g 233 d261_226 (by decide) ?_
                      refine wq_rv d261_233 ?_
                      exact fin
                    · -- pc 189
                      have f186 := b2y c186
                      refine wq_l 190 d261_189 rfl rfl rfl rfl ?_
                      refine wq_b 198 193 d261_190 rfl (by decide) rfl (fun c190 => ?_) (fun c190 => ?_)
                      · -- pc 198
                        skip
                        refine wq_l 199 d261_198 rfl rfl rfl rfl ?_
                        refine wq_k 201 122 d261_199 (by decide) rfl ?_
                        refine wq_v 204 [_] d261_201 rfl rfl m224 rfl rfl (Nat.le_of_ble_eq_true rfl) rfl (rp_is (k := 22) hN (by decide) (by decide) hS ?_)
                        refine wq_b 222 207 d261_204 rfl (by decide) rfl (fun c204 => ?_) (fun c204 => ?_)
                        · -- pc 222
                          have f204 := b2n c204
                          refine wq_l 223 d261_222 rfl rfl rfl rfl ?_
                          refine wq_v 226 [] d261_223 rfl rfl m264 rfl rfl (Nat.le_of_ble_eq_true rfl) rfl (xs264 (w := w) hN h34 hko hS (by first | exact ⟨20, by unfold xs_ew; omega, f186⟩ | exact ⟨22, by unfold xs_ew; omega, f204⟩ | exact ⟨27, by unfold xs_ew; omega, f219⟩) (fun e a1 a2 σ2 b1 b2 b3 b4 => ?_))
                          have fin := A4 e a1 a2 σ2 (rp_Se b1 rfl (by omega)) b2 b3 b4
                          refine wq_g 233 d261_226 (by decide) ?_
                          refine wq_rv d261_233 ?_
                          exact fin
                        · -- pc 207
                          have f204 := b2y c204
                          refine wq_l 208 d261_207 rfl rfl rfl rfl ?_
                          refine wq_k 210 6 d261_208 (by decide) rfl ?_
                          refine wq_b 229 213 d261_210 rfl (by decide) rfl (fun c210 => ?_) (fun c210 => ?_)
                          · -- pc 229
                            have w210 : ¬ w = 6 := by have y := c210; simp only [i_lt, i_le, i_eq, ne_eq, Int32.reduceToInt, b2_0, b2_1, decide_eq_true_eq, decide_eq_false_iff_not, Bool.not_eq_true, Bool.not_eq_false, ew] at y; omega
                            refine wq_l 230 d261_229 rfl rfl rfl rfl ?_
                            refine wq_v 233 [] d261_230 rfl rfl m230 rfl rfl (Nat.le_of_ble_eq_true rfl) rfl (rp_ref hN hS (fun σ1 h1 k1 => ?_))
                            have fin := A5 (fun y => by first | (exfalso; omega) | exact absurd (f51.symm.trans y.2) (by decide)) (fun y => by first | (exfalso; omega) | exact absurd (f91.symm.trans y.2) (by decide)) (fun y => by first | (exfalso; omega) | exact absurd (f149.symm.trans y.2) (by decide)) (fun e he => by
                                unfold xs_ew at he
                                rcases he with ⟨e1, e2⟩ | ⟨e1, e2⟩ | ⟨e1, e2⟩
                                · first | (exfalso; omega) | (rw [e2]; exact f186)
                                · first | (exfalso; omega) | (rw [e2]; exact f204)
                                · first | (exfalso; omega) | (rw [e2]; exact f219)) _ (rp_Se h1 rfl (by omega)) (fun to => rp_Ek k1)
                            refine wq_rv d261_233 ?_
                            exact fin
                          · -- pc 213
                            have w210 : w = 6 := by have y := c210; simp only [i_lt, i_le, i_eq, ne_eq, Int32.reduceToInt, b2_0, b2_1, decide_eq_true_eq, decide_eq_false_iff_not, Bool.not_eq_true, Bool.not_eq_false, ew] at y; omega
                            refine wq_l 214 d261_213 rfl rfl rfl rfl ?_
                            refine wq_k 216 127 d261_214 (by decide) rfl ?_
                            refine wq_v 219 [_] d261_216 rfl rfl m224 rfl rfl (Nat.le_of_ble_eq_true rfl) rfl (rp_is (k := 27) hN (by decide) (by decide) hS ?_)
                            refine wq_b 229 222 d261_219 rfl (by decide) rfl (fun c219 => ?_) (fun c219 => ?_)
                            · -- pc 229
                              have f219 := b2z c219
                              refine wq_l 230 d261_229 rfl rfl rfl rfl ?_
                              refine wq_v 233 [] d261_230 rfl rfl m230 rfl rfl (Nat.le_of_ble_eq_true rfl) rfl (rp_ref hN hS (fun σ1 h1 k1 => ?_))
                              have fin := A5 (fun y => by first | (exfalso; omega) | exact absurd (f51.symm.trans y.2) (by decide)) (fun y => by first | (exfalso; omega) | exact absurd (f91.symm.trans y.2) (by decide)) (fun y => by first | (exfalso; omega) | exact absurd (f149.symm.trans y.2) (by decide)) (fun e he => by
                                  unfold xs_ew at he
                                  rcases he with ⟨e1, e2⟩ | ⟨e1, e2⟩ | ⟨e1, e2⟩
                                  · first | (exfalso; omega) | (rw [e2]; exact f186)
                                  · first | (exfalso; omega) | (rw [e2]; exact f204)
                                  · first | (exfalso; omega) | (rw [e2]; exact f219)) _ (rp_Se h1 rfl (by omega)) (fun to => rp_Ek k1)
                              refine wq_rv d261_233 ?_
                              exact fin
                            · -- pc 222
                              have f219 := b2n c219
                              refine wq_l 223 d261_222 rfl rfl rfl rfl ?_
                              refine wq_v 226 [] d261_223 rfl rfl m264 rfl rfl (Nat.le_of_ble_eq_true rfl) rfl (xs264 (w := w) hN h34 hko hS (by first | exact ⟨20, by unfold xs_ew; omega, f186⟩ | exact ⟨22, by unfold xs_ew; omega, f204⟩ | exact ⟨27, by unfold xs_ew; omega, f219⟩) (fun e a1 a2 σ2 b1 b2 b3 b4 => ?_))
                              have fin := A4 e a1 a2 σ2 (rp_Se b1 rfl (by omega)) b2 b3 b4
                              refine wq_g 233 d261_226 (by decide) ?_
                              refine wq_rv d261_233 ?_
                              exact fin
                      · -- pc 193
                        skip
                        exact absurd (by decide) c190
                  · -- pc 175
                    have w172 : ¬ w = 1 := by have y := c172; simp only [i_lt, i_le, i_eq, ne_eq, Int32.reduceToInt, b2_0, b2_1, decide_eq_true_eq, decide_eq_false_iff_not, Bool.not_eq_true, Bool.not_eq_false, ew] at y; omega
                    exfalso; omega
                · -- pc 152
                  have f149 := b2n c149
                  refine wq_l 153 d261_152 rfl rfl rfl rfl ?_
                  refine wq_a 154 d261_153 rfl rfl ?_
                  refine wq_gi (ci := 10) (j := 34) 157 d261_154 rfl rfl rfl rfl ?_
                  first | rw [h34] | rw [show σ1.1 10 34 = nI (k + 1) from (xs_k34 k1).trans h34]
                  refine wq_k 158 1 d261_157 (by decide) rfl ?_
                  refine wq_a 159 d261_158 rfl rfl ?_
                  rw [nI_pred]
                  refine wq_pf (ci := 10) (j := 34) 162 d261_159 rfl rfl rfl ⟨rfl, rfl⟩ rfl ?_
                  have h2 := xs_Sq (xs_qi (x := nI k)) hS
                  refine wq_l 163 d261_162 rfl rfl rfl rfl ?_
                  refine wq_l 164 d261_163 rfl rfl rfl rfl ?_
                  refine wq_v 167 [_] d261_164 rfl rfl m263 rfl rfl (Nat.le_of_ble_eq_true rfl) rfl (rp263 (s := s) hN (by omega) hnd hc1 rfl (by omega) h2 z (fun σa y σ2 h3 b2 m3 hy o hS2 => ?_))
                  have fin := A7 (by omega) f149 _ _ _ _ _ _ (xs_qi (x := nI k)) (fun j hj => ⟨rfl, rfl, rfl⟩) m3 hy o (rp_Se hS2 rfl (by omega))
                  refine wq_g 233 d261_167 (by decide) ?_
                  refine wq_rv d261_233 ?_
                  exact fin
            · -- pc 94
              have f91 := b2n c91
              refine wq_l 95 d261_94 rfl rfl rfl rfl ?_
              refine wq_gi (ci := 10) (j := 4) 98 d261_95 rfl rfl rfl rfl ?_
              refine wq_s 100 d261_98 rfl rfl (Nat.le_of_ble_eq_true rfl) rfl rfl ?_
              refine wq_l 101 d261_100 rfl rfl rfl rfl ?_
              refine wq_v 104 [] d261_101 rfl rfl m203 rfl rfl (Nat.le_of_ble_eq_true rfl) rfl (rp_go hN (pg_isl f91 (by decide)) hS (fun σ1 h1 k1 => ?_))
              refine wq_l 105 d261_104 rfl rfl rfl rfl ?_
              refine wq_a 106 d261_105 rfl rfl ?_
              refine wq_gi (ci := 10) (j := 34) 109 d261_106 rfl rfl rfl rfl ?_
              first | rw [h34] | rw [show σ1.1 10 34 = nI (k + 1) from (xs_k34 k1).trans h34]
              refine wq_k 110 1 d261_109 (by decide) rfl ?_
              refine wq_a 111 d261_110 rfl rfl ?_
              rw [nI_pred]
              refine wq_pf (ci := 10) (j := 34) 114 d261_111 rfl rfl rfl ⟨rfl, rfl⟩ rfl ?_
              have h2 := xs_Sq (xs_qi (x := nI k)) h1
              refine wq_l 115 d261_114 rfl rfl rfl rfl ?_
              refine wq_l 116 d261_115 rfl rfl rfl rfl ?_
              refine wq_b 123 119 d261_116 rfl (by decide) rfl (fun c116 => ?_) (fun c116 => ?_)
              · -- pc 123
                skip
                exact absurd c116 (by decide)
              · -- pc 119
                skip
                refine wq_k 120 5 d261_119 (by decide) rfl ?_
                refine wq_g 124 d261_120 (by decide) ?_
                refine wq_l 125 d261_124 rfl rfl rfl rfl ?_
                refine wq_l 126 d261_125 rfl rfl rfl rfl ?_
                refine wq_l 127 d261_126 rfl rfl rfl rfl ?_
                refine wq_k 129 11 d261_127 (by decide) rfl ?_
                refine wq_l 131 d261_129 rfl rfl rfl rfl ?_
                refine wq_k 132 0 d261_131 (by decide) rfl ?_
                refine wq_v 135 [_, _, _, _] d261_132 rfl rfl m226 rfl rfl (Nat.le_of_ble_eq_true rfl) rfl (rp_mkin (to := nd) hN (by omega) hnd h2 (fun σ3 h3 m3 => ?_))
                refine wq_v 138 [_, _, _] d261_135 rfl rfl m258 rfl rfl (Nat.le_of_ble_eq_true rfl) rfl (sp258 (k := k) (by rw [xs_d34 m3.1]; rfl) (by omega) ?_)
                have o2 := xs_obq (nn := nd) (w := 5) (k := k) k1 (xs_qi (x := nI k)) (fun j hj => ⟨rfl, rfl, rfl⟩) (xs_obm (σ := pm_pi σ1 10 34 (nI k)) (h := h) (nd := nd) (l := []) (c2 := pg_stp c) rp_Ewr xs_Nr m3 (fun w => by rw [xs_bps hl]; exact hpl))
                have fin := A3 (by omega) f91 _ _ _ (by rw [if_neg (by omega)]; exact o2) (rp_Se (xs_Sq xs_qp h3) rfl (by omega))
                refine wq_g 233 d261_138 (by decide) ?_
                refine wq_rv d261_233 ?_
                exact fin
          · -- pc 81
            have w78 : ¬ w = 1 := by have y := c78; simp only [i_lt, i_le, i_eq, ne_eq, Int32.reduceToInt, b2_0, b2_1, decide_eq_true_eq, decide_eq_false_iff_not, Bool.not_eq_true, Bool.not_eq_false, ew] at y; omega
            exfalso; omega
        · -- pc 54
          have f51 := b2n c51
          refine wq_l 55 d261_54 rfl rfl rfl rfl ?_
          refine wq_v 58 [] d261_55 rfl rfl m203 rfl rfl (Nat.le_of_ble_eq_true rfl) rfl (rp_go hN (pg_isl f51 (by decide)) hS (fun σ1 h1 k1 => ?_))
          refine wq_l 59 d261_58 rfl rfl rfl rfl ?_
          refine wq_a 60 d261_59 rfl rfl ?_
          refine wq_gi (ci := 10) (j := 34) 63 d261_60 rfl rfl rfl rfl ?_
          first | rw [h34] | rw [show σ1.1 10 34 = nI (k + 1) from (xs_k34 k1).trans h34]
          refine wq_k 64 1 d261_63 (by decide) rfl ?_
          refine wq_a 65 d261_64 rfl rfl ?_
          rw [nI_pred]
          refine wq_pf (ci := 10) (j := 34) 68 d261_65 rfl rfl rfl ⟨rfl, rfl⟩ rfl ?_
          have h2 := xs_Sq (xs_qi (x := nI k)) h1
          refine wq_l 69 d261_68 rfl rfl rfl rfl ?_
          refine wq_l 70 d261_69 rfl rfl rfl rfl ?_
          refine wq_v 73 [_] d261_70 rfl rfl m257 rfl rfl (Nat.le_of_ble_eq_true rfl) rfl (rp257 (s := s) hN (by omega) hnd rfl (by omega) h2 (fun σ2 h3 b2 o hS2 => ?_))
          have o2 := xs_obq k1 (xs_qi (x := nI k)) (fun j hj => ⟨rfl, rfl, rfl⟩) o
          have fin := A2 w42 f51 _ _ _ o2 (rp_Se hS2 rfl (by omega))
          refine wq_g 233 d261_73 (by decide) ?_
          refine wq_rv d261_233 ?_
          exact fin
