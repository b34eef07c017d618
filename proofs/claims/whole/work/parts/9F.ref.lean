theorem d246_0 : decode prog_14_method_54_code 0 = .ok (.aload_n 0, 1) := by decide +kernel
theorem d246_1 : decode prog_14_method_54_code 1 = .ok (.getfield 151, 3) := by decide +kernel
theorem d246_4 : decode prog_14_method_54_code 4 = .ok (.istore_n 1, 1) := by decide +kernel
theorem d246_5 : decode prog_14_method_54_code 5 = .ok (.aload_n 0, 1) := by decide +kernel
theorem d246_6 : decode prog_14_method_54_code 6 = .ok (.getfield 154, 3) := by decide +kernel
theorem d246_9 : decode prog_14_method_54_code 9 = .ok (.istore_n 2, 1) := by decide +kernel
theorem d246_10 : decode prog_14_method_54_code 10 = .ok (.aload_n 0, 1) := by decide +kernel
theorem d246_11 : decode prog_14_method_54_code 11 = .ok (.bipush 45, 2) := by decide +kernel
theorem d246_13 : decode prog_14_method_54_code 13 = .ok (.invokevirtual 346, 3) := by decide +kernel
theorem d246_16 : decode prog_14_method_54_code 16 = .ok (.ifCond .ne 13, 3) := by decide +kernel
theorem d246_19 : decode prog_14_method_54_code 19 = .ok (.aload_n 0, 1) := by decide +kernel
theorem d246_20 : decode prog_14_method_54_code 20 = .ok (.sipush 134, 3) := by decide +kernel
theorem d246_23 : decode prog_14_method_54_code 23 = .ok (.invokevirtual 331, 3) := by decide +kernel
theorem d246_26 : decode prog_14_method_54_code 26 = .ok (.ifCond .eq 35, 3) := by decide +kernel
theorem d246_29 : decode prog_14_method_54_code 29 = .ok (.aload_n 0, 1) := by decide +kernel
theorem d246_30 : decode prog_14_method_54_code 30 = .ok (.aload_n 0, 1) := by decide +kernel
theorem d246_31 : decode prog_14_method_54_code 31 = .ok (.bipush 36, 2) := by decide +kernel
theorem d246_33 : decode prog_14_method_54_code 33 = .ok (.iload_n 1, 1) := by decide +kernel
theorem d246_34 : decode prog_14_method_54_code 34 = .ok (.aload_n 0, 1) := by decide +kernel
theorem d246_35 : decode prog_14_method_54_code 35 = .ok (.sipush 134, 3) := by decide +kernel
theorem d246_38 : decode prog_14_method_54_code 38 = .ok (.invokevirtual 331, 3) := by decide +kernel
theorem d246_41 : decode prog_14_method_54_code 41 = .ok (.ifCond .eq 7, 3) := by decide +kernel
theorem d246_44 : decode prog_14_method_54_code 44 = .ok (.iconst 1, 1) := by decide +kernel
theorem d246_45 : decode prog_14_method_54_code 45 = .ok (.goto 4, 3) := by decide +kernel
theorem d246_48 : decode prog_14_method_54_code 48 = .ok (.iconst 0, 1) := by decide +kernel
theorem d246_49 : decode prog_14_method_54_code 49 = .ok (.invokevirtual 324, 3) := by decide +kernel
theorem d246_52 : decode prog_14_method_54_code 52 = .ok (.invokevirtual 397, 3) := by decide +kernel
theorem d246_55 : decode prog_14_method_54_code 55 = .ok (.aload_n 0, 1) := by decide +kernel
theorem d246_56 : decode prog_14_method_54_code 56 = .ok (.invokevirtual 400, 3) := by decide +kernel
theorem d246_59 : decode prog_14_method_54_code 59 = .ok (.iconst 1, 1) := by decide +kernel
theorem d246_60 : decode prog_14_method_54_code 60 = .ok (.ireturn, 1) := by decide +kernel
theorem d246_61 : decode prog_14_method_54_code 61 = .ok (.aload_n 0, 1) := by decide +kernel
theorem d246_62 : decode prog_14_method_54_code 62 = .ok (.iconst 2, 1) := by decide +kernel
theorem d246_63 : decode prog_14_method_54_code 63 = .ok (.invokevirtual 331, 3) := by decide +kernel
theorem d246_66 : decode prog_14_method_54_code 66 = .ok (.ifCond .ne 23, 3) := by decide +kernel
theorem d246_69 : decode prog_14_method_54_code 69 = .ok (.aload_n 0, 1) := by decide +kernel
theorem d246_70 : decode prog_14_method_54_code 70 = .ok (.sipush 135, 3) := by decide +kernel
theorem d246_73 : decode prog_14_method_54_code 73 = .ok (.invokevirtual 331, 3) := by decide +kernel
theorem d246_76 : decode prog_14_method_54_code 76 = .ok (.ifCond .ne 13, 3) := by decide +kernel
theorem d246_79 : decode prog_14_method_54_code 79 = .ok (.aload_n 0, 1) := by decide +kernel
theorem d246_80 : decode prog_14_method_54_code 80 = .ok (.sipush 136, 3) := by decide +kernel
theorem d246_83 : decode prog_14_method_54_code 83 = .ok (.invokevirtual 331, 3) := by decide +kernel
theorem d246_86 : decode prog_14_method_54_code 86 = .ok (.ifCond .eq 60, 3) := by decide +kernel
theorem d246_89 : decode prog_14_method_54_code 89 = .ok (.aload_n 0, 1) := by decide +kernel
theorem d246_90 : decode prog_14_method_54_code 90 = .ok (.aload_n 0, 1) := by decide +kernel
theorem d246_91 : decode prog_14_method_54_code 91 = .ok (.aload_n 0, 1) := by decide +kernel
theorem d246_92 : decode prog_14_method_54_code 92 = .ok (.iconst 2, 1) := by decide +kernel
theorem d246_93 : decode prog_14_method_54_code 93 = .ok (.invokevirtual 331, 3) := by decide +kernel
theorem d246_96 : decode prog_14_method_54_code 96 = .ok (.ifCond .eq 8, 3) := by decide +kernel
theorem d246_99 : decode prog_14_method_54_code 99 = .ok (.bipush 30, 2) := by decide +kernel
theorem d246_101 : decode prog_14_method_54_code 101 = .ok (.goto 5, 3) := by decide +kernel
theorem d246_104 : decode prog_14_method_54_code 104 = .ok (.bipush 31, 2) := by decide +kernel
theorem d246_106 : decode prog_14_method_54_code 106 = .ok (.iload_n 1, 1) := by decide +kernel
theorem d246_107 : decode prog_14_method_54_code 107 = .ok (.aload_n 0, 1) := by decide +kernel
theorem d246_108 : decode prog_14_method_54_code 108 = .ok (.iconst 2, 1) := by decide +kernel
theorem d246_109 : decode prog_14_method_54_code 109 = .ok (.invokevirtual 331, 3) := by decide +kernel
theorem d246_112 : decode prog_14_method_54_code 112 = .ok (.ifCond .eq 7, 3) := by decide +kernel
theorem d246_115 : decode prog_14_method_54_code 115 = .ok (.iload_n 2, 1) := by decide +kernel
theorem d246_116 : decode prog_14_method_54_code 116 = .ok (.goto 18, 3) := by decide +kernel
theorem d246_119 : decode prog_14_method_54_code 119 = .ok (.aload_n 0, 1) := by decide +kernel
theorem d246_120 : decode prog_14_method_54_code 120 = .ok (.sipush 135, 3) := by decide +kernel
theorem d246_123 : decode prog_14_method_54_code 123 = .ok (.invokevirtual 331, 3) := by decide +kernel
theorem d246_126 : decode prog_14_method_54_code 126 = .ok (.ifCond .eq 7, 3) := by decide +kernel
theorem d246_129 : decode prog_14_method_54_code 129 = .ok (.iconst 1, 1) := by decide +kernel
theorem d246_130 : decode prog_14_method_54_code 130 = .ok (.goto 4, 3) := by decide +kernel
theorem d246_133 : decode prog_14_method_54_code 133 = .ok (.iconst 0, 1) := by decide +kernel
theorem d246_134 : decode prog_14_method_54_code 134 = .ok (.invokevirtual 324, 3) := by decide +kernel
theorem d246_137 : decode prog_14_method_54_code 137 = .ok (.invokevirtual 403, 3) := by decide +kernel
theorem d246_140 : decode prog_14_method_54_code 140 = .ok (.aload_n 0, 1) := by decide +kernel
theorem d246_141 : decode prog_14_method_54_code 141 = .ok (.invokevirtual 334, 3) := by decide +kernel
theorem d246_144 : decode prog_14_method_54_code 144 = .ok (.iconst 0, 1) := by decide +kernel
theorem d246_145 : decode prog_14_method_54_code 145 = .ok (.ireturn, 1) := by decide +kernel
theorem d246_146 : decode prog_14_method_54_code 146 = .ok (.aload_n 0, 1) := by decide +kernel
theorem d246_147 : decode prog_14_method_54_code 147 = .ok (.bipush 40, 2) := by decide +kernel
theorem d246_149 : decode prog_14_method_54_code 149 = .ok (.invokevirtual 346, 3) := by decide +kernel
theorem d246_152 : decode prog_14_method_54_code 152 = .ok (.ifCond .eq 14, 3) := by decide +kernel
theorem d246_155 : decode prog_14_method_54_code 155 = .ok (.aload_n 0, 1) := by decide +kernel
theorem d246_156 : decode prog_14_method_54_code 156 = .ok (.iconst (-1), 1) := by decide +kernel
theorem d246_157 : decode prog_14_method_54_code 157 = .ok (.invokevirtual 397, 3) := by decide +kernel
theorem d246_160 : decode prog_14_method_54_code 160 = .ok (.aload_n 0, 1) := by decide +kernel
theorem d246_161 : decode prog_14_method_54_code 161 = .ok (.invokevirtual 400, 3) := by decide +kernel
theorem d246_164 : decode prog_14_method_54_code 164 = .ok (.iconst 1, 1) := by decide +kernel
theorem d246_165 : decode prog_14_method_54_code 165 = .ok (.ireturn, 1) := by decide +kernel
theorem d246_166 : decode prog_14_method_54_code 166 = .ok (.aload_n 0, 1) := by decide +kernel
theorem d246_167 : decode prog_14_method_54_code 167 = .ok (.iconst 1, 1) := by decide +kernel
theorem d246_168 : decode prog_14_method_54_code 168 = .ok (.invokevirtual 340, 3) := by decide +kernel
theorem d246_171 : decode prog_14_method_54_code 171 = .ok (.aload_n 0, 1) := by decide +kernel
theorem d246_172 : decode prog_14_method_54_code 172 = .ok (.bipush 91, 2) := by decide +kernel
theorem d246_174 : decode prog_14_method_54_code 174 = .ok (.invokevirtual 346, 3) := by decide +kernel
theorem d246_177 : decode prog_14_method_54_code 177 = .ok (.ifCond .eq 21, 3) := by decide +kernel
theorem d246_180 : decode prog_14_method_54_code 180 = .ok (.aload_n 0, 1) := by decide +kernel
theorem d246_181 : decode prog_14_method_54_code 181 = .ok (.aload_n 0, 1) := by decide +kernel
theorem d246_182 : decode prog_14_method_54_code 182 = .ok (.bipush 32, 2) := by decide +kernel
theorem d246_184 : decode prog_14_method_54_code 184 = .ok (.iload_n 1, 1) := by decide +kernel
theorem d246_185 : decode prog_14_method_54_code 185 = .ok (.iload_n 2, 1) := by decide +kernel
theorem d246_186 : decode prog_14_method_54_code 186 = .ok (.invokevirtual 324, 3) := by decide +kernel
theorem d246_189 : decode prog_14_method_54_code 189 = .ok (.invokevirtual 397, 3) := by decide +kernel
theorem d246_192 : decode prog_14_method_54_code 192 = .ok (.aload_n 0, 1) := by decide +kernel
theorem d246_193 : decode prog_14_method_54_code 193 = .ok (.invokevirtual 400, 3) := by decide +kernel
theorem d246_196 : decode prog_14_method_54_code 196 = .ok (.iconst 1, 1) := by decide +kernel
theorem d246_197 : decode prog_14_method_54_code 197 = .ok (.ireturn, 1) := by decide +kernel
theorem d246_198 : decode prog_14_method_54_code 198 = .ok (.aload_n 0, 1) := by decide +kernel
theorem d246_199 : decode prog_14_method_54_code 199 = .ok (.bipush 40, 2) := by decide +kernel
theorem d246_201 : decode prog_14_method_54_code 201 = .ok (.invokevirtual 346, 3) := by decide +kernel
theorem d246_204 : decode prog_14_method_54_code 204 = .ok (.ifCond .eq 50, 3) := by decide +kernel
theorem d246_207 : decode prog_14_method_54_code 207 = .ok (.aload_n 0, 1) := by decide +kernel
theorem d246_208 : decode prog_14_method_54_code 208 = .ok (.bipush 34, 2) := by decide +kernel
theorem d246_210 : decode prog_14_method_54_code 210 = .ok (.iload_n 1, 1) := by decide +kernel
theorem d246_211 : decode prog_14_method_54_code 211 = .ok (.iload_n 2, 1) := by decide +kernel
theorem d246_212 : decode prog_14_method_54_code 212 = .ok (.invokevirtual 324, 3) := by decide +kernel
theorem d246_215 : decode prog_14_method_54_code 215 = .ok (.istore_n 3, 1) := by decide +kernel
theorem d246_216 : decode prog_14_method_54_code 216 = .ok (.aload_n 0, 1) := by decide +kernel
theorem d246_217 : decode prog_14_method_54_code 217 = .ok (.invokevirtual 400, 3) := by decide +kernel
theorem d246_220 : decode prog_14_method_54_code 220 = .ok (.aload_n 0, 1) := by decide +kernel
theorem d246_221 : decode prog_14_method_54_code 221 = .ok (.sipush 241, 3) := by decide +kernel
theorem d246_224 : decode prog_14_method_54_code 224 = .ok (.invokevirtual 353, 3) := by decide +kernel
theorem d246_227 : decode prog_14_method_54_code 227 = .ok (.ifCond .eq 20, 3) := by decide +kernel
theorem d246_230 : decode prog_14_method_54_code 230 = .ok (.aload_n 0, 1) := by decide +kernel
theorem d246_231 : decode prog_14_method_54_code 231 = .ok (.dup, 1) := by decide +kernel
theorem d246_232 : decode prog_14_method_54_code 232 = .ok (.getfield 343, 3) := by decide +kernel
theorem d246_235 : decode prog_14_method_54_code 235 = .ok (.iconst 1, 1) := by decide +kernel
theorem d246_236 : decode prog_14_method_54_code 236 = .ok (.isub, 1) := by decide +kernel
theorem d246_237 : decode prog_14_method_54_code 237 = .ok (.putfield 343, 3) := by decide +kernel
theorem d246_240 : decode prog_14_method_54_code 240 = .ok (.aload_n 0, 1) := by decide +kernel
theorem d246_241 : decode prog_14_method_54_code 241 = .ok (.iload_n 3, 1) := by decide +kernel
theorem d246_242 : decode prog_14_method_54_code 242 = .ok (.invokevirtual 403, 3) := by decide +kernel
theorem d246_245 : decode prog_14_method_54_code 245 = .ok (.iconst 0, 1) := by decide +kernel
theorem d246_246 : decode prog_14_method_54_code 246 = .ok (.ireturn, 1) := by decide +kernel
theorem d246_247 : decode prog_14_method_54_code 247 = .ok (.aload_n 0, 1) := by decide +kernel
theorem d246_248 : decode prog_14_method_54_code 248 = .ok (.iload_n 3, 1) := by decide +kernel
theorem d246_249 : decode prog_14_method_54_code 249 = .ok (.invokevirtual 397, 3) := by decide +kernel
theorem d246_252 : decode prog_14_method_54_code 252 = .ok (.iconst 1, 1) := by decide +kernel
theorem d246_253 : decode prog_14_method_54_code 253 = .ok (.ireturn, 1) := by decide +kernel
theorem d246_254 : decode prog_14_method_54_code 254 = .ok (.aload_n 0, 1) := by decide +kernel
theorem d246_255 : decode prog_14_method_54_code 255 = .ok (.getfield 135, 3) := by decide +kernel
theorem d246_258 : decode prog_14_method_54_code 258 = .ok (.ifCond .ne 13, 3) := by decide +kernel
theorem d246_261 : decode prog_14_method_54_code 261 = .ok (.aload_n 0, 1) := by decide +kernel
theorem d246_262 : decode prog_14_method_54_code 262 = .ok (.aload_n 0, 1) := by decide +kernel
theorem d246_263 : decode prog_14_method_54_code 263 = .ok (.iload_n 1, 1) := by decide +kernel
theorem d246_264 : decode prog_14_method_54_code 264 = .ok (.iload_n 2, 1) := by decide +kernel
theorem d246_265 : decode prog_14_method_54_code 265 = .ok (.invokevirtual 381, 3) := by decide +kernel
theorem d246_268 : decode prog_14_method_54_code 268 = .ok (.invokevirtual 403, 3) := by decide +kernel
theorem d246_271 : decode prog_14_method_54_code 271 = .ok (.iconst 0, 1) := by decide +kernel
theorem d246_272 : decode prog_14_method_54_code 272 = .ok (.ireturn, 1) := by decide +kernel
theorem m246 : pm_m 246 = some (⟨"TypeRulesModel", "operand", "()Z"⟩, prog_14_method_54_code, 4, (some FieldType.boolean), 10, 0, 11) := rfl
theorem d250_0 : decode prog_14_method_55_code 0 = .ok (.aload_n 0, 1) := by decide +kernel
theorem d250_1 : decode prog_14_method_55_code 1 = .ok (.getfield 135, 3) := by decide +kernel
theorem d250_4 : decode prog_14_method_55_code 4 = .ok (.ifCond .ne 13, 3) := by decide +kernel
theorem d250_7 : decode prog_14_method_55_code 7 = .ok (.aload_n 0, 1) := by decide +kernel
theorem d250_8 : decode prog_14_method_55_code 8 = .ok (.getfield 157, 3) := by decide +kernel
theorem d250_11 : decode prog_14_method_55_code 11 = .ok (.invokestatic 406, 3) := by decide +kernel
theorem d250_14 : decode prog_14_method_55_code 14 = .ok (.goto 4, 3) := by decide +kernel
theorem d250_17 : decode prog_14_method_55_code 17 = .ok (.iconst 0, 1) := by decide +kernel
theorem d250_18 : decode prog_14_method_55_code 18 = .ok (.istore_n 1, 1) := by decide +kernel
theorem d250_19 : decode prog_14_method_55_code 19 = .ok (.iload_n 1, 1) := by decide +kernel
theorem d250_20 : decode prog_14_method_55_code 20 = .ok (.ifCond .le 45, 3) := by decide +kernel
theorem d250_23 : decode prog_14_method_55_code 23 = .ok (.aload_n 0, 1) := by decide +kernel
theorem d250_24 : decode prog_14_method_55_code 24 = .ok (.iload_n 1, 1) := by decide +kernel
theorem d250_25 : decode prog_14_method_55_code 25 = .ok (.invokevirtual 409, 3) := by decide +kernel
theorem d250_28 : decode prog_14_method_55_code 28 = .ok (.aload_n 0, 1) := by decide +kernel
theorem d250_29 : decode prog_14_method_55_code 29 = .ok (.aload_n 0, 1) := by decide +kernel
theorem d250_30 : decode prog_14_method_55_code 30 = .ok (.bipush 35, 2) := by decide +kernel
theorem d250_32 : decode prog_14_method_55_code 32 = .ok (.aload_n 0, 1) := by decide +kernel
theorem d250_33 : decode prog_14_method_55_code 33 = .ok (.getfield 151, 3) := by decide +kernel
theorem d250_36 : decode prog_14_method_55_code 36 = .ok (.aload_n 0, 1) := by decide +kernel
theorem d250_37 : decode prog_14_method_55_code 37 = .ok (.getfield 157, 3) := by decide +kernel
theorem d250_40 : decode prog_14_method_55_code 40 = .ok (.invokestatic 412, 3) := by decide +kernel
theorem d250_43 : decode prog_14_method_55_code 43 = .ok (.invokevirtual 324, 3) := by decide +kernel
theorem d250_46 : decode prog_14_method_55_code 46 = .ok (.invokevirtual 397, 3) := by decide +kernel
theorem d250_49 : decode prog_14_method_55_code 49 = .ok (.aload_n 0, 1) := by decide +kernel
theorem d250_50 : decode prog_14_method_55_code 50 = .ok (.dup, 1) := by decide +kernel
theorem d250_51 : decode prog_14_method_55_code 51 = .ok (.getfield 415, 3) := by decide +kernel
theorem d250_54 : decode prog_14_method_55_code 54 = .ok (.iconst 1, 1) := by decide +kernel
theorem d250_55 : decode prog_14_method_55_code 55 = .ok (.iadd, 1) := by decide +kernel
theorem d250_56 : decode prog_14_method_55_code 56 = .ok (.putfield 415, 3) := by decide +kernel
theorem d250_59 : decode prog_14_method_55_code 59 = .ok (.aload_n 0, 1) := by decide +kernel
theorem d250_60 : decode prog_14_method_55_code 60 = .ok (.invokevirtual 400, 3) := by decide +kernel
theorem d250_63 : decode prog_14_method_55_code 63 = .ok (.iconst 0, 1) := by decide +kernel
theorem d250_64 : decode prog_14_method_55_code 64 = .ok (.ireturn, 1) := by decide +kernel
theorem d250_65 : decode prog_14_method_55_code 65 = .ok (.aload_n 0, 1) := by decide +kernel
theorem d250_66 : decode prog_14_method_55_code 66 = .ok (.iconst 1, 1) := by decide +kernel
theorem d250_67 : decode prog_14_method_55_code 67 = .ok (.invokevirtual 409, 3) := by decide +kernel
theorem d250_70 : decode prog_14_method_55_code 70 = .ok (.aload_n 0, 1) := by decide +kernel
theorem d250_71 : decode prog_14_method_55_code 71 = .ok (.invokevirtual 391, 3) := by decide +kernel
theorem d250_74 : decode prog_14_method_55_code 74 = .ok (.istore_n 2, 1) := by decide +kernel
theorem d250_75 : decode prog_14_method_55_code 75 = .ok (.iload_n 2, 1) := by decide +kernel
theorem d250_76 : decode prog_14_method_55_code 76 = .ok (.bipush (-2), 2) := by decide +kernel
theorem d250_78 : decode prog_14_method_55_code 78 = .ok (.if_icmp .ne 5, 3) := by decide +kernel
theorem d250_81 : decode prog_14_method_55_code 81 = .ok (.iconst 2, 1) := by decide +kernel
theorem d250_82 : decode prog_14_method_55_code 82 = .ok (.ireturn, 1) := by decide +kernel
theorem d250_83 : decode prog_14_method_55_code 83 = .ok (.aload_n 0, 1) := by decide +kernel
theorem d250_84 : decode prog_14_method_55_code 84 = .ok (.bipush 41, 2) := by decide +kernel
theorem d250_86 : decode prog_14_method_55_code 86 = .ok (.invokevirtual 346, 3) := by decide +kernel
theorem d250_89 : decode prog_14_method_55_code 89 = .ok (.ifCond .eq 14, 3) := by decide +kernel
theorem d250_92 : decode prog_14_method_55_code 92 = .ok (.iload_n 2, 1) := by decide +kernel
theorem d250_93 : decode prog_14_method_55_code 93 = .ok (.iconst (-1), 1) := by decide +kernel
theorem d250_94 : decode prog_14_method_55_code 94 = .ok (.if_icmp .eq 24, 3) := by decide +kernel
theorem d250_97 : decode prog_14_method_55_code 97 = .ok (.iload_n 2, 1) := by decide +kernel
theorem d250_98 : decode prog_14_method_55_code 98 = .ok (.bipush 34, 2) := by decide +kernel
theorem d250_100 : decode prog_14_method_55_code 100 = .ok (.if_icmp .eq 18, 3) := by decide +kernel
theorem d250_103 : decode prog_14_method_55_code 103 = .ok (.aload_n 0, 1) := by decide +kernel
theorem d250_104 : decode prog_14_method_55_code 104 = .ok (.bipush 93, 2) := by decide +kernel
theorem d250_106 : decode prog_14_method_55_code 106 = .ok (.invokevirtual 346, 3) := by decide +kernel
theorem d250_109 : decode prog_14_method_55_code 109 = .ok (.ifCond .eq 89, 3) := by decide +kernel
theorem d250_112 : decode prog_14_method_55_code 112 = .ok (.iload_n 2, 1) := by decide +kernel
theorem d250_113 : decode prog_14_method_55_code 113 = .ok (.bipush 32, 2) := by decide +kernel
theorem d250_115 : decode prog_14_method_55_code 115 = .ok (.if_icmp .ne 83, 3) := by decide +kernel
theorem d250_118 : decode prog_14_method_55_code 118 = .ok (.aload_n 0, 1) := by decide +kernel
theorem d250_119 : decode prog_14_method_55_code 119 = .ok (.dup, 1) := by decide +kernel
theorem d250_120 : decode prog_14_method_55_code 120 = .ok (.getfield 385, 3) := by decide +kernel
theorem d250_123 : decode prog_14_method_55_code 123 = .ok (.iconst 1, 1) := by decide +kernel
theorem d250_124 : decode prog_14_method_55_code 124 = .ok (.isub, 1) := by decide +kernel
theorem d250_125 : decode prog_14_method_55_code 125 = .ok (.putfield 385, 3) := by decide +kernel
theorem d250_128 : decode prog_14_method_55_code 128 = .ok (.aload_n 0, 1) := by decide +kernel
theorem d250_129 : decode prog_14_method_55_code 129 = .ok (.dup, 1) := by decide +kernel
theorem d250_130 : decode prog_14_method_55_code 130 = .ok (.getfield 343, 3) := by decide +kernel
theorem d250_133 : decode prog_14_method_55_code 133 = .ok (.iconst 1, 1) := by decide +kernel
theorem d250_134 : decode prog_14_method_55_code 134 = .ok (.isub, 1) := by decide +kernel
theorem d250_135 : decode prog_14_method_55_code 135 = .ok (.putfield 343, 3) := by decide +kernel
theorem d250_138 : decode prog_14_method_55_code 138 = .ok (.aload_n 0, 1) := by decide +kernel
theorem d250_139 : decode prog_14_method_55_code 139 = .ok (.dup, 1) := by decide +kernel
theorem d250_140 : decode prog_14_method_55_code 140 = .ok (.getfield 388, 3) := by decide +kernel
theorem d250_143 : decode prog_14_method_55_code 143 = .ok (.iconst 1, 1) := by decide +kernel
theorem d250_144 : decode prog_14_method_55_code 144 = .ok (.isub, 1) := by decide +kernel
theorem d250_145 : decode prog_14_method_55_code 145 = .ok (.putfield 388, 3) := by decide +kernel
theorem d250_148 : decode prog_14_method_55_code 148 = .ok (.aload_n 0, 1) := by decide +kernel
theorem d250_149 : decode prog_14_method_55_code 149 = .ok (.getfield 62, 3) := by decide +kernel
theorem d250_152 : decode prog_14_method_55_code 152 = .ok (.aload_n 0, 1) := by decide +kernel
theorem d250_153 : decode prog_14_method_55_code 153 = .ok (.getfield 388, 3) := by decide +kernel
theorem d250_156 : decode prog_14_method_55_code 156 = .ok (.iaload, 1) := by decide +kernel
theorem d250_157 : decode prog_14_method_55_code 157 = .ok (.istore_n 3, 1) := by decide +kernel
theorem d250_158 : decode prog_14_method_55_code 158 = .ok (.iload_n 2, 1) := by decide +kernel
theorem d250_159 : decode prog_14_method_55_code 159 = .ok (.iconst (-1), 1) := by decide +kernel
theorem d250_160 : decode prog_14_method_55_code 160 = .ok (.if_icmp .eq 27, 3) := by decide +kernel
theorem d250_163 : decode prog_14_method_55_code 163 = .ok (.aload_n 0, 1) := by decide +kernel
theorem d250_164 : decode prog_14_method_55_code 164 = .ok (.aload_n 0, 1) := by decide +kernel
theorem d250_165 : decode prog_14_method_55_code 165 = .ok (.getfield 59, 3) := by decide +kernel
theorem d250_168 : decode prog_14_method_55_code 168 = .ok (.aload_n 0, 1) := by decide +kernel
theorem d250_169 : decode prog_14_method_55_code 169 = .ok (.getfield 385, 3) := by decide +kernel
theorem d250_172 : decode prog_14_method_55_code 172 = .ok (.iaload, 1) := by decide +kernel
theorem d250_173 : decode prog_14_method_55_code 173 = .ok (.iload_n 3, 1) := by decide +kernel
theorem d250_174 : decode prog_14_method_55_code 174 = .ok (.invokevirtual 328, 3) := by decide +kernel
theorem d250_177 : decode prog_14_method_55_code 177 = .ok (.aload_n 0, 1) := by decide +kernel
theorem d250_178 : decode prog_14_method_55_code 178 = .ok (.getfield 59, 3) := by decide +kernel
theorem d250_181 : decode prog_14_method_55_code 181 = .ok (.aload_n 0, 1) := by decide +kernel
theorem d250_182 : decode prog_14_method_55_code 182 = .ok (.getfield 385, 3) := by decide +kernel
theorem d250_185 : decode prog_14_method_55_code 185 = .ok (.iaload, 1) := by decide +kernel
theorem d250_186 : decode prog_14_method_55_code 186 = .ok (.istore_n 3, 1) := by decide +kernel
theorem d250_187 : decode prog_14_method_55_code 187 = .ok (.aload_n 0, 1) := by decide +kernel
theorem d250_188 : decode prog_14_method_55_code 188 = .ok (.invokevirtual 334, 3) := by decide +kernel
theorem d250_191 : decode prog_14_method_55_code 191 = .ok (.aload_n 0, 1) := by decide +kernel
theorem d250_192 : decode prog_14_method_55_code 192 = .ok (.iload_n 3, 1) := by decide +kernel
theorem d250_193 : decode prog_14_method_55_code 193 = .ok (.invokevirtual 403, 3) := by decide +kernel
theorem d250_196 : decode prog_14_method_55_code 196 = .ok (.iconst 1, 1) := by decide +kernel
theorem d250_197 : decode prog_14_method_55_code 197 = .ok (.ireturn, 1) := by decide +kernel
theorem d250_198 : decode prog_14_method_55_code 198 = .ok (.aload_n 0, 1) := by decide +kernel
theorem d250_199 : decode prog_14_method_55_code 199 = .ok (.bipush 44, 2) := by decide +kernel
theorem d250_201 : decode prog_14_method_55_code 201 = .ok (.invokevirtual 346, 3) := by decide +kernel
theorem d250_204 : decode prog_14_method_55_code 204 = .ok (.ifCond .eq 49, 3) := by decide +kernel
theorem d250_207 : decode prog_14_method_55_code 207 = .ok (.iload_n 2, 1) := by decide +kernel
theorem d250_208 : decode prog_14_method_55_code 208 = .ok (.bipush 34, 2) := by decide +kernel
theorem d250_210 : decode prog_14_method_55_code 210 = .ok (.if_icmp .ne 43, 3) := by decide +kernel
theorem d250_213 : decode prog_14_method_55_code 213 = .ok (.aload_n 0, 1) := by decide +kernel
theorem d250_214 : decode prog_14_method_55_code 214 = .ok (.dup, 1) := by decide +kernel
theorem d250_215 : decode prog_14_method_55_code 215 = .ok (.getfield 388, 3) := by decide +kernel
theorem d250_218 : decode prog_14_method_55_code 218 = .ok (.iconst 1, 1) := by decide +kernel
theorem d250_219 : decode prog_14_method_55_code 219 = .ok (.isub, 1) := by decide +kernel
theorem d250_220 : decode prog_14_method_55_code 220 = .ok (.putfield 388, 3) := by decide +kernel
theorem d250_223 : decode prog_14_method_55_code 223 = .ok (.aload_n 0, 1) := by decide +kernel
theorem d250_224 : decode prog_14_method_55_code 224 = .ok (.aload_n 0, 1) := by decide +kernel
theorem d250_225 : decode prog_14_method_55_code 225 = .ok (.getfield 59, 3) := by decide +kernel
theorem d250_228 : decode prog_14_method_55_code 228 = .ok (.aload_n 0, 1) := by decide +kernel
theorem d250_229 : decode prog_14_method_55_code 229 = .ok (.getfield 385, 3) := by decide +kernel
theorem d250_232 : decode prog_14_method_55_code 232 = .ok (.iconst 1, 1) := by decide +kernel
theorem d250_233 : decode prog_14_method_55_code 233 = .ok (.isub, 1) := by decide +kernel
theorem d250_234 : decode prog_14_method_55_code 234 = .ok (.iaload, 1) := by decide +kernel
theorem d250_235 : decode prog_14_method_55_code 235 = .ok (.aload_n 0, 1) := by decide +kernel
theorem d250_236 : decode prog_14_method_55_code 236 = .ok (.getfield 62, 3) := by decide +kernel
theorem d250_239 : decode prog_14_method_55_code 239 = .ok (.aload_n 0, 1) := by decide +kernel
theorem d250_240 : decode prog_14_method_55_code 240 = .ok (.getfield 388, 3) := by decide +kernel
theorem d250_243 : decode prog_14_method_55_code 243 = .ok (.iaload, 1) := by decide +kernel
theorem d250_244 : decode prog_14_method_55_code 244 = .ok (.invokevirtual 328, 3) := by decide +kernel
theorem d250_247 : decode prog_14_method_55_code 247 = .ok (.aload_n 0, 1) := by decide +kernel
theorem d250_248 : decode prog_14_method_55_code 248 = .ok (.invokevirtual 334, 3) := by decide +kernel
theorem d250_251 : decode prog_14_method_55_code 251 = .ok (.iconst 0, 1) := by decide +kernel
theorem d250_252 : decode prog_14_method_55_code 252 = .ok (.ireturn, 1) := by decide +kernel
theorem d250_253 : decode prog_14_method_55_code 253 = .ok (.aload_n 0, 1) := by decide +kernel
theorem d250_254 : decode prog_14_method_55_code 254 = .ok (.invokevirtual 337, 3) := by decide +kernel
theorem d250_257 : decode prog_14_method_55_code 257 = .ok (.iconst 2, 1) := by decide +kernel
theorem d250_258 : decode prog_14_method_55_code 258 = .ok (.ireturn, 1) := by decide +kernel
theorem m250 : pm_m 250 = some (⟨"TypeRulesModel", "behind", "()I"⟩, prog_14_method_55_code, 4, (some FieldType.int), 10, 0, 11) := rfl
/-! an operand, and what comes behind it -/
theorem pg_any_c (T : pg_T) (k : Nat) (ks : List Nat) (c : pg_C) : pg_any T (k :: ks) c = (pg_is T k c || pg_any T ks c) := by
  unfold pg_any pg_is
  rw [List.contains_cons]
theorem pg_any_n (T : pg_T) (c : pg_C) : pg_any T [] c = false := rfl
def xe_X (t : Nat → Nat) (M n : Nat) (σ0 : pm_S) (h0 : rp_H) (o0 s : Nat) (σ : pm_S) (h : rp_H) (x : xm_S) : Prop :=
  rp_S t M n σ x.2.1 h (s + 3) ∧ rp_W σ0 h0 σ h ∧ (pg_live (pt_T t M n) x.2.1 → ∃ b, xe_B t M n σ0 h0 σ h x.2.1 s b x.2.2.1 x.2.2.2 [] ∧ x.2.1.2.2 = o0 + b + xe_m x.2.2.1 ∧ xe_k x.2.2.1 ≤ b ∧ x.2.2.2.length = xe_k x.2.2.1 + (if x.1 = 0 then 0 else 1))
theorem xe_Bs {t : Nat → Nat} {M n : Nat} {σ0 : pm_S} {h0 : rp_H} {σ : pm_S} {h : rp_H} {c : pg_C} {s s' b : Nat} {P : List xm_I} {O : List (List pg_N)} {E : List (List hp_N)} (B : xe_B t M n σ0 h0 σ h c s b P O E) (hb : h.1 ≤ 2 * c.1 + s') : xe_B t M n σ0 h0 σ h c s' b P O E := by
  obtain ⟨F, G, hS, r⟩ := B
  exact ⟨F, G, rp_St hS hb, r⟩
theorem xe_Xm {t : Nat → Nat} {M n : Nat} {σ0 : pm_S} {h0 : rp_H} {o0 s s' b k : Nat} {σ : pm_S} {h : rp_H} {c : pg_C} {P : List xm_I} {O : List (List pg_N)} (B : xe_B t M n σ0 h0 σ h c s' b P O []) (hs : s' ≤ s + 3) (hb : pg_live (pt_T t M n) c → h.1 ≤ 2 * c.1 + s ∧ c.2.2 = o0 + b + xe_m P ∧ xe_k P ≤ b ∧ O.length = xe_k P + (if k = 0 then 0 else 1)) : xe_X t M n σ0 h0 o0 s σ h (k, c, P, O) := by
  have e := xe_Bl B
  exact ⟨rp_Se e.2.2.2.1 rfl hs, e.2.2.2.2, fun z => ⟨b, xe_Bs B (hb z).1, (hb z).2⟩⟩
theorem xe_Xg {t : Nat → Nat} {M n : Nat} {σ0 : pm_S} {h0 : rp_H} {o0 s s' b : Nat} {σ : pm_S} {h : rp_H} {c : pg_C} {P : List xm_I} {O : List (List pg_N)} {l : List pg_N} (B : xe_B t M n σ0 h0 σ h (xm_gv c P l).1 s' b (xm_gv c P l).2.1 ((xm_gv c P l).2.2 :: O) []) (hs : s' ≤ s + 3) (hb : pg_live (pt_T t M n) c → h.1 ≤ 2 * c.1 + s ∧ c.2.2 = o0 + b + xe_m P ∧ xe_k P ≤ b ∧ O.length = xe_k P) : xe_X t M n σ0 h0 o0 s σ h (xm_gs c P O l) := by
  obtain ⟨g1, g2⟩ := xe_gvc P c l
  refine xe_Xm (k := 1) B hs (fun z => ?_)
  have z' : pg_live (pt_T t M n) c := by
    unfold pg_live at *
    rw [g1, g2] at z
    exact z
  obtain ⟨h1, h2, h3, h4⟩ := hb z'
  obtain ⟨n1, n2⟩ := xe_gvn P c l (by omega)
  rw [g1, if_neg (by decide), List.length_cons]
  omega
theorem xe_Xd {t : Nat → Nat} {M n : Nat} {σ0 : pm_S} {h0 : rp_H} {o0 s : Nat} {σ : pm_S} {h : rp_H} {x : xm_S} (hS : rp_S t M n σ x.2.1 h (s + 3)) (w : rp_W σ0 h0 σ h) (hd : pg_dead (pt_T t M n) x.2.1) : xe_X t M n σ0 h0 o0 s σ h x := ⟨hS, w, fun z => absurd hd (pg_ld.mpr z)⟩
theorem xe_it {i : xm_I} {T : List hp_N} (h : i.1 ≤ 98) (hT : T.map (·.1) = xm_nd i i.2.2.2) (h5 : i.1 = 35 → ∃ g, g ≤ 13 ∧ i.2.2.1 = nI g) (h6 : i.2.2.2 = []) : i.1 ≤ 99 ∧ (if i.1 = 99 then T = [] else T.map (·.1) = xm_nd i i.2.2.2) ∧ (i.1 = 35 → ∃ g, g ≤ 13 ∧ i.2.2.1 = nI g) ∧ (i.1 = 35 ∨ i.1 = 36 → i.2.2.2 = []) := ⟨by omega, by rw [if_neg (by omega)]; exact hT, h5, fun _ => h6⟩
theorem xe_ln {T : pg_T} {c : pg_C} (z : pg_live T (pg_opn c)) : (pg_opn c).1 = c.1 + 1 ∧ (pg_opn c).2.2 = c.2.2 + 1 := by
  rw [(pg_lopn z).2.2]
  exact ⟨rfl, rfl⟩
theorem xe_ls {T : pg_T} {c : pg_C} (z : pg_live T c) : (pg_stp c).1 = c.1 + 1 ∧ (pg_stp c).2.2 = c.2.2 := by
  rw [pg_stpl (T := T) z.1]
  exact ⟨rfl, rfl⟩
theorem rp_nu2 {t : Nat → Nat} {M n k : Nat} {σ : pm_S} {c : pg_C} {h : rp_H} {s : Nat} (hk : rp_nk k = false) (e : rp_S t M n σ c h s) (f : pg_is (pt_T t M n) 42 c = true) : rp_V t M n k (σ.1 10 5) (pg_v (pt_T t M n) c) := by
  have hl := (pg_isl f (by decide)).1
  have hkk := rp_kk e hl
  rw [pg_isk f] at hkk
  have e1 := (e.1.2.2.1 hl).2.2.2.2.1
  have e2 : rq_v t M c.1 = lx_v t M lx_ns c.1 := by
    unfold rq_v
    rw [if_neg (by omega), if_pos (by omega)]
  rw [e2] at e1
  have e3 : σ.1 10 5 = pg_v (pt_T t M n) c := e1
  unfold rp_V
  rw [if_neg (by rw [hk]; decide)]
  exact e3
theorem xe_cn1 {T : pg_T} {c : pg_C} (hl : pg_live T c) (q : pg_is T 42 c = true) : pg_const T c = (pg_stp c, [(30, pg_pl T c, pg_v T c, 1)]) := by
  have q0 : pg_any T [35, 36] c = false := by simp only [pg_any_c, pg_any_n, xs_isf q (show 42 ≠ 35 by decide), xs_isf q (show 42 ≠ 36 by decide), Bool.or_false]
  unfold pg_const
  rw [pg_ite_c, if_neg (by rw [q0]; decide), pg_ite_c, if_neg (by rw [xs_isf q (show 42 ≠ 61 by decide)]; decide), pg_leaf_c]
  rw [show pg_exp T 42 c = (c.1 + 1, c.2.1, c.2.2) from if_pos (pg_isk q), pg_stpl (T := T) hl.1]
theorem xe_cn2 {T : pg_T} {c : pg_C} (q : pg_is T 35 c = true) : pg_const T c = (pg_stp c, [(31, pg_pl T c, 1, 1)]) := by
  have q0 : pg_any T [35, 36] c = true := by simp only [pg_any_c, q, Bool.true_or]
  unfold pg_const
  rw [pg_ite_c, if_pos q0, pg_leaf_c, if_pos q]
theorem xe_cn3 {T : pg_T} {c : pg_C} (q : pg_is T 36 c = true) : pg_const T c = (pg_stp c, [(31, pg_pl T c, 0, 1)]) := by
  have q0 : pg_any T [35, 36] c = true := by simp only [pg_any_c, q, Bool.true_or, Bool.or_true]
  unfold pg_const
  rw [pg_ite_c, if_pos q0, pg_leaf_c, if_neg (by rw [xs_isf q (show 36 ≠ 35 by decide)]; decide)]
theorem xe_gvl {T : pg_T} {P : List xm_I} {c : pg_C} {l : List pg_N} (h : pg_live T c ∧ T.1 c.1 ≠ 44) : pg_live T (xm_gv c P l).1 ∧ T.1 (xm_gv c P l).1.1 ≠ 44 := by
  obtain ⟨g1, g2⟩ := xe_gvc P c l
  unfold pg_live at *
  rw [g1, g2]
  exact h
theorem xe246 {d : Nat} {Q : Option Value → pm_S → Prop} {t : Nat → Nat} {M n : Nat} {σ0 : pm_S} {h0 : rp_H} {o0 s : Nat} {σ : pm_S} {h : rp_H} {c : pg_C} {P : List xm_I} {O : List (List pg_N)} (hN : rp_n t M n) (hs : s ≤ 2900) (hl : pg_live (pt_T t M n) c) (X : xe_X t M n σ0 h0 o0 s σ h (0, c, P, O)) (hQ : ∀ σ' h', xe_X t M n σ0 h0 o0 s σ' h' (xm_op (pt_T t M n) c P O) → Q (some (.int (b2 ((xm_op (pt_T t M n) c P O).1 == 0)))) σ') : pm_call pm_Y0 (d + 10) 246 [.ref 10] σ Q := by
  obtain ⟨b, B, ho, hkb, hol⟩ := X.2.2 hl
  have ho : c.2.2 = o0 + b + xe_m P := ho
  have hkb : xe_k P ≤ b := hkb
  have hol : O.length = xe_k P + 0 := hol
  have B : xe_B t M n σ0 h0 σ h c s b P O [] := B
  have hS := (xe_Bl B).2.2.2.1
  have hW := (xe_Bl B).2.2.2.2
  have h60 := (hS.1.2.2.1 hl).2.2.2.2.2.2.2
  have hkm := xe_km P
  have z0 := rp_l0 hS hl
  have hpl := rp_pl hS z0
  have hb := hS.2.2
  refine wq_m m246 (Nat.le_of_ble_eq_true rfl) (by decide) rfl ?_
  refine wq_l 1 d246_0 rfl rfl rfl rfl ?_
  refine wq_gi (ci := 10) (j := 4) 4 d246_1 rfl rfl rfl rfl ?_
  refine wq_s 5 d246_4 rfl rfl (Nat.le_of_ble_eq_true rfl) rfl rfl ?_
  refine wq_l 6 d246_5 rfl rfl rfl rfl ?_
  refine wq_gi (ci := 10) (j := 5) 9 d246_6 rfl rfl rfl rfl ?_
  refine wq_s 10 d246_9 rfl rfl (Nat.le_of_ble_eq_true rfl) rfl rfl ?_
  refine wq_l 11 d246_10 rfl rfl rfl rfl ?_
  refine wq_k 13 45 d246_11 (by decide) rfl ?_
  refine wq_v 16 [_] d246_13 rfl rfl m238 rfl rfl (Nat.le_of_ble_eq_true rfl) rfl (rp_sg (k := 61) hN (by decide) (by decide) hS ?_)
  refine wq_b 29 19 d246_16 rfl (by decide) rfl (fun c16 => ?_) (fun c16 => ?_)
  · -- pc 29
    have f16 := b2n c16
    have fa : pg_any (pt_T t M n) [61, 34] c = true := by first | (simp only [pg_any_c, f16, Bool.true_or]; done) | (simp only [pg_any_c, f26, Bool.true_or, Bool.or_true]; done)
    refine wq_l 30 d246_29 rfl rfl rfl rfl ?_
    refine wq_l 31 d246_30 rfl rfl rfl rfl ?_
    refine wq_k 33 36 d246_31 (by decide) rfl ?_
    refine wq_l 34 d246_33 rfl rfl rfl rfl ?_
    refine wq_l 35 d246_34 rfl rfl rfl rfl ?_
    refine wq_k 38 134 d246_35 (by decide) rfl ?_
    refine wq_v 41 [_] d246_38 rfl rfl m224 rfl rfl (Nat.le_of_ble_eq_true rfl) rfl (rp_is (k := 34) hN (by decide) (by decide) hS ?_)
    refine wq_b 48 44 d246_41 rfl (by decide) rfl (fun c41 => ?_) (fun c41 => ?_)
    · -- pc 48
      have f41 := b2z c41
      refine wq_k 49 0 d246_48 (by decide) rfl ?_
      refine wq_v 52 [_, _, _] d246_49 rfl rfl m202 rfl rfl (Nat.le_of_ble_eq_true rfl) rfl (rp_mk2 hN (by omega) hS (fun σ1 h1 m1 x1 => ?_))
      obtain ⟨x, la, e1, e2, B1⟩ := xe_Bo B (rp_Oq1 (k := 36) (p := pg_pl (pt_T t M n) c) (v := if pg_is (pt_T t M n) 34 c = true then 1 else 0) hS.2.1 m1 (fun w => ⟨hpl, by rw [f41]; exact rp_V0 (by decide)⟩)) x1 h1
      have B2 := xe_Bu (i := (36, pg_pl (pt_T t M n) c, if pg_is (pt_T t M n) 34 c = true then 1 else 0, [])) B1 (xe_it (show (36 : Nat) ≤ 98 by decide) e2 (fun z => absurd z (by decide : ¬ (36 : Nat) = 35)) rfl)
      rw [show xe_c (x :: la) = nI h.1 from congrArg nI e1] at B2
      refine wq_v 55 [_] d246_52 rfl rfl m247 rfl rfl (Nat.le_of_ble_eq_true rfl) rfl (sp247 (k := P.length) (xe_Bl B1).1 (by omega) ?_)
      refine wq_l 56 d246_55 rfl rfl rfl rfl ?_
      refine wq_v 59 [] d246_56 rfl rfl m248 rfl rfl (Nat.le_of_ble_eq_true rfl) rfl (rp_deep hN ⟨hl, fun z => (rp_anyl fa (by decide)).2 z⟩ (xe_Bl B2).2.2.2.1 (fun σ3 h3 k3 => ?_))
      refine wq_k 60 1 d246_59 (by decide) rfl ?_
      refine wq_ri d246_60 (rfl) ?_
      have hx : xm_op (pt_T t M n) c P O = (0, pg_opn c, (36, pg_pl (pt_T t M n) c, if pg_is (pt_T t M n) 34 c = true then 1 else 0, []) :: P, O) := by unfold xm_op; rw [if_pos fa]
      rw [hx] at hQ
      refine hQ _ _ (xe_Xm (xe_Bk B2 k3 h3) (by omega) (fun z => ?_))
      have q1 := xe_ln z
      have q2 := xe_k0 (i := (36, pg_pl (pt_T t M n) c, if pg_is (pt_T t M n) 34 c = true then 1 else 0, [])) (P := P) (show (36 : Nat) ≠ 35 by decide)
      have q3 : (rp_nw h).1 = h.1 + 1 := rfl
      rw [if_pos rfl]
      omega
    · -- pc 44
      have f41 := b2n c41
      refine wq_k 45 1 d246_44 (by decide) rfl ?_
      refine wq_g 49 d246_45 (by decide) ?_
      refine wq_v 52 [_, _, _] d246_49 rfl rfl m202 rfl rfl (Nat.le_of_ble_eq_true rfl) rfl (rp_mk2 hN (by omega) hS (fun σ1 h1 m1 x1 => ?_))
      obtain ⟨x, la, e1, e2, B1⟩ := xe_Bo B (rp_Oq1 (k := 36) (p := pg_pl (pt_T t M n) c) (v := if pg_is (pt_T t M n) 34 c = true then 1 else 0) hS.2.1 m1 (fun w => ⟨hpl, by rw [f41]; exact rp_V0 (by decide)⟩)) x1 h1
      have B2 := xe_Bu (i := (36, pg_pl (pt_T t M n) c, if pg_is (pt_T t M n) 34 c = true then 1 else 0, [])) B1 (xe_it (show (36 : Nat) ≤ 98 by decide) e2 (fun z => absurd z (by decide : ¬ (36 : Nat) = 35)) rfl)
      rw [show xe_c (x :: la) = nI h.1 from congrArg nI e1] at B2
      refine wq_v 55 [_] d246_52 rfl rfl m247 rfl rfl (Nat.le_of_ble_eq_true rfl) rfl (sp247 (k := P.length) (xe_Bl B1).1 (by omega) ?_)
      refine wq_l 56 d246_55 rfl rfl rfl rfl ?_
      refine wq_v 59 [] d246_56 rfl rfl m248 rfl rfl (Nat.le_of_ble_eq_true rfl) rfl (rp_deep hN ⟨hl, fun z => (rp_anyl fa (by decide)).2 z⟩ (xe_Bl B2).2.2.2.1 (fun σ3 h3 k3 => ?_))
      refine wq_k 60 1 d246_59 (by decide) rfl ?_
      refine wq_ri d246_60 (rfl) ?_
      have hx : xm_op (pt_T t M n) c P O = (0, pg_opn c, (36, pg_pl (pt_T t M n) c, if pg_is (pt_T t M n) 34 c = true then 1 else 0, []) :: P, O) := by unfold xm_op; rw [if_pos fa]
      rw [hx] at hQ
      refine hQ _ _ (xe_Xm (xe_Bk B2 k3 h3) (by omega) (fun z => ?_))
      have q1 := xe_ln z
      have q2 := xe_k0 (i := (36, pg_pl (pt_T t M n) c, if pg_is (pt_T t M n) 34 c = true then 1 else 0, [])) (P := P) (show (36 : Nat) ≠ 35 by decide)
      have q3 : (rp_nw h).1 = h.1 + 1 := rfl
      rw [if_pos rfl]
      omega
  · -- pc 19
    have f16 := b2y c16
    refine wq_l 20 d246_19 rfl rfl rfl rfl ?_
    refine wq_k 23 134 d246_20 (by decide) rfl ?_
    refine wq_v 26 [_] d246_23 rfl rfl m224 rfl rfl (Nat.le_of_ble_eq_true rfl) rfl (rp_is (k := 34) hN (by decide) (by decide) hS ?_)
    refine wq_b 61 29 d246_26 rfl (by decide) rfl (fun c26 => ?_) (fun c26 => ?_)
    · -- pc 61
      have f26 := b2z c26
      have fa : pg_any (pt_T t M n) [61, 34] c = false := by simp only [pg_any_c, pg_any_n, f16, f26, Bool.or_false]
      refine wq_l 62 d246_61 rfl rfl rfl rfl ?_
      refine wq_k 63 2 d246_62 (by decide) rfl ?_
      refine wq_v 66 [_] d246_63 rfl rfl m224 rfl rfl (Nat.le_of_ble_eq_true rfl) rfl (rp_is (k := 42) hN (by decide) (by decide) hS ?_)
      refine wq_b 89 69 d246_66 rfl (by decide) rfl (fun c66 => ?_) (fun c66 => ?_)
      · -- pc 89
        have f66 := b2n c66
        have fb : pg_any (pt_T t M n) [42, 35, 36] c = true := by first | (simp only [pg_any_c, f66, Bool.true_or]; done) | (simp only [pg_any_c, f76, Bool.true_or, Bool.or_true]; done) | (simp only [pg_any_c, f86, Bool.true_or, Bool.or_true]; done)
        refine wq_l 90 d246_89 rfl rfl rfl rfl ?_
        refine wq_l 91 d246_90 rfl rfl rfl rfl ?_
        refine wq_l 92 d246_91 rfl rfl rfl rfl ?_
        refine wq_k 93 2 d246_92 (by decide) rfl ?_
        refine wq_v 96 [_] d246_93 rfl rfl m224 rfl rfl (Nat.le_of_ble_eq_true rfl) rfl (rp_is (k := 42) hN (by decide) (by decide) hS ?_)
        refine wq_b 104 99 d246_96 rfl (by decide) rfl (fun c96 => ?_) (fun c96 => ?_)
        · -- pc 104
          have f96 := b2z c96
          exact absurd (f66.symm.trans f96) (by decide)
        · -- pc 99
          have f96 := b2n c96
          refine wq_k 101 30 d246_99 (by decide) rfl ?_
          refine wq_g 106 d246_101 (by decide) ?_
          refine wq_l 107 d246_106 rfl rfl rfl rfl ?_
          refine wq_l 108 d246_107 rfl rfl rfl rfl ?_
          refine wq_k 109 2 d246_108 (by decide) rfl ?_
          refine wq_v 112 [_] d246_109 rfl rfl m224 rfl rfl (Nat.le_of_ble_eq_true rfl) rfl (rp_is (k := 42) hN (by decide) (by decide) hS ?_)
          refine wq_b 119 115 d246_112 rfl (by decide) rfl (fun c112 => ?_) (fun c112 => ?_)
          · -- pc 119
            have f112 := b2z c112
            exact absurd (f66.symm.trans f112) (by decide)
          · -- pc 115
            have f112 := b2n c112
            refine wq_l 116 d246_115 rfl rfl rfl rfl ?_
            refine wq_g 134 d246_116 (by decide) ?_
            refine wq_v 137 [_, _, _] d246_134 rfl rfl m202 rfl rfl (Nat.le_of_ble_eq_true rfl) rfl (rp_mk2 hN (by omega) hS (fun σ1 h1 m1 x1 => ?_))
            have hcn : pg_const (pt_T t M n) c = (pg_stp c, [(30, pg_pl (pt_T t M n) c, pg_v (pt_T t M n) c, 1)]) := xe_cn1 hl f66
            have hv : rp_V t M n 30 (σ.1 10 5) (pg_v (pt_T t M n) c) := rp_nu2 (by decide) hS f66
            obtain ⟨x, la, e1, e2, B1⟩ := xe_Bo B (rp_Oq1 (k := 30) hS.2.1 m1 (fun w => ⟨hpl, hv⟩)) x1 h1
            refine wq_v 140 [_] d246_137 rfl rfl m249 rfl rfl (Nat.le_of_ble_eq_true rfl) rfl (xe249 (by omega) (by omega) B1 e2 e1 (fun _ => by omega) (fun σ2 h2 B2 => ?_))
            refine wq_l 141 d246_140 rfl rfl rfl rfl ?_
            refine wq_v 144 [] d246_141 rfl rfl m203 rfl rfl (Nat.le_of_ble_eq_true rfl) rfl (rp_go hN (xe_gvl ⟨hl, (rp_anyl fb (by decide)).2⟩) (xe_Bl B2).2.2.2.1 (fun σ3 h3 k3 => ?_))
            refine wq_k 145 0 d246_144 (by decide) rfl ?_
            refine wq_ri d246_145 (rfl) ?_
            have hx : xm_op (pt_T t M n) c P O = xm_gs (pg_const (pt_T t M n) c).1 P O (pg_const (pt_T t M n) c).2 := by unfold xm_op; rw [if_neg (by rw [fa]; decide), if_pos fb]
            rw [hx, hcn] at hQ
            have B3 := xe_Bk B2 k3 h3
            refine hQ _ h2 (xe_Xg (c := pg_stp c) (s' := s + 1) (b := b) ?_ (by omega) (fun z => ?_))
            · rw [xe_gvs]; exact B3
            · have q1 := xe_ls hl
              have q5 := (xe_Bl B2).2.2.2.1.2.2
              rw [(xe_gvc P c _).1] at q5
              omega
      · -- pc 69
        have f66 := b2y c66
        refine wq_l 70 d246_69 rfl rfl rfl rfl ?_
        refine wq_k 73 135 d246_70 (by decide) rfl ?_
        refine wq_v 76 [_] d246_73 rfl rfl m224 rfl rfl (Nat.le_of_ble_eq_true rfl) rfl (rp_is (k := 35) hN (by decide) (by decide) hS ?_)
        refine wq_b 89 79 d246_76 rfl (by decide) rfl (fun c76 => ?_) (fun c76 => ?_)
        · -- pc 89
          have f76 := b2n c76
          have fb : pg_any (pt_T t M n) [42, 35, 36] c = true := by first | (simp only [pg_any_c, f66, Bool.true_or]; done) | (simp only [pg_any_c, f76, Bool.true_or, Bool.or_true]; done) | (simp only [pg_any_c, f86, Bool.true_or, Bool.or_true]; done)
          refine wq_l 90 d246_89 rfl rfl rfl rfl ?_
          refine wq_l 91 d246_90 rfl rfl rfl rfl ?_
          refine wq_l 92 d246_91 rfl rfl rfl rfl ?_
          refine wq_k 93 2 d246_92 (by decide) rfl ?_
          refine wq_v 96 [_] d246_93 rfl rfl m224 rfl rfl (Nat.le_of_ble_eq_true rfl) rfl (rp_is (k := 42) hN (by decide) (by decide) hS ?_)
          refine wq_b 104 99 d246_96 rfl (by decide) rfl (fun c96 => ?_) (fun c96 => ?_)
          · -- pc 104
            have f96 := b2z c96
            refine wq_k 106 31 d246_104 (by decide) rfl ?_
            refine wq_l 107 d246_106 rfl rfl rfl rfl ?_
            refine wq_l 108 d246_107 rfl rfl rfl rfl ?_
            refine wq_k 109 2 d246_108 (by decide) rfl ?_
            refine wq_v 112 [_] d246_109 rfl rfl m224 rfl rfl (Nat.le_of_ble_eq_true rfl) rfl (rp_is (k := 42) hN (by decide) (by decide) hS ?_)
            refine wq_b 119 115 d246_112 rfl (by decide) rfl (fun c112 => ?_) (fun c112 => ?_)
            · -- pc 119
              have f112 := b2z c112
              refine wq_l 120 d246_119 rfl rfl rfl rfl ?_
              refine wq_k 123 135 d246_120 (by decide) rfl ?_
              refine wq_v 126 [_] d246_123 rfl rfl m224 rfl rfl (Nat.le_of_ble_eq_true rfl) rfl (rp_is (k := 35) hN (by decide) (by decide) hS ?_)
              refine wq_b 133 129 d246_126 rfl (by decide) rfl (fun c126 => ?_) (fun c126 => ?_)
              · -- pc 133
                have f126 := b2z c126
                exact absurd (f76.symm.trans f126) (by decide)
              · -- pc 129
                have f126 := b2n c126
                refine wq_k 130 1 d246_129 (by decide) rfl ?_
                refine wq_g 134 d246_130 (by decide) ?_
                refine wq_v 137 [_, _, _] d246_134 rfl rfl m202 rfl rfl (Nat.le_of_ble_eq_true rfl) rfl (rp_mk2 hN (by omega) hS (fun σ1 h1 m1 x1 => ?_))
                have hcn : pg_const (pt_T t M n) c = (pg_stp c, [(31, pg_pl (pt_T t M n) c, 1, 1)]) := xe_cn2 f76
                obtain ⟨x, la, e1, e2, B1⟩ := xe_Bo B (rp_Oq1 (k := 31) hS.2.1 m1 (fun w => ⟨hpl, rp_V0 (v := 1) (by decide)⟩)) x1 h1
                refine wq_v 140 [_] d246_137 rfl rfl m249 rfl rfl (Nat.le_of_ble_eq_true rfl) rfl (xe249 (by omega) (by omega) B1 e2 e1 (fun _ => by omega) (fun σ2 h2 B2 => ?_))
                refine wq_l 141 d246_140 rfl rfl rfl rfl ?_
                refine wq_v 144 [] d246_141 rfl rfl m203 rfl rfl (Nat.le_of_ble_eq_true rfl) rfl (rp_go hN (xe_gvl ⟨hl, (rp_anyl fb (by decide)).2⟩) (xe_Bl B2).2.2.2.1 (fun σ3 h3 k3 => ?_))
                refine wq_k 145 0 d246_144 (by decide) rfl ?_
                refine wq_ri d246_145 (rfl) ?_
                have hx : xm_op (pt_T t M n) c P O = xm_gs (pg_const (pt_T t M n) c).1 P O (pg_const (pt_T t M n) c).2 := by unfold xm_op; rw [if_neg (by rw [fa]; decide), if_pos fb]
                rw [hx, hcn] at hQ
                have B3 := xe_Bk B2 k3 h3
                refine hQ _ h2 (xe_Xg (c := pg_stp c) (s' := s + 1) (b := b) ?_ (by omega) (fun z => ?_))
                · rw [xe_gvs]; exact B3
                · have q1 := xe_ls hl
                  have q5 := (xe_Bl B2).2.2.2.1.2.2
                  rw [(xe_gvc P c _).1] at q5
                  omega
            · -- pc 115
              have f112 := b2n c112
              exact absurd (f66.symm.trans f112) (by decide)
          · -- pc 99
            have f96 := b2n c96
            exact absurd (f66.symm.trans f96) (by decide)
        · -- pc 79
          have f76 := b2y c76
          refine wq_l 80 d246_79 rfl rfl rfl rfl ?_
          refine wq_k 83 136 d246_80 (by decide) rfl ?_
          refine wq_v 86 [_] d246_83 rfl rfl m224 rfl rfl (Nat.le_of_ble_eq_true rfl) rfl (rp_is (k := 36) hN (by decide) (by decide) hS ?_)
          refine wq_b 146 89 d246_86 rfl (by decide) rfl (fun c86 => ?_) (fun c86 => ?_)
          · -- pc 146
            have f86 := b2z c86
            have fb : pg_any (pt_T t M n) [42, 35, 36] c = false := by simp only [pg_any_c, pg_any_n, f66, f76, f86, Bool.or_false]
            refine wq_l 147 d246_146 rfl rfl rfl rfl ?_
            refine wq_k 149 40 d246_147 (by decide) rfl ?_
            refine wq_v 152 [_] d246_149 rfl rfl m238 rfl rfl (Nat.le_of_ble_eq_true rfl) rfl (rp_sg (k := 52) hN (by decide) (by decide) hS ?_)
            refine wq_b 166 155 d246_152 rfl (by decide) rfl (fun c152 => ?_) (fun c152 => ?_)
            · -- pc 166
              have f152 := b2z c152
              refine wq_l 167 d246_166 rfl rfl rfl rfl ?_
              refine wq_k 168 1 d246_167 (by decide) rfl ?_
              refine wq_v 171 [_] d246_168 rfl rfl m229 rfl rfl (Nat.le_of_ble_eq_true rfl) rfl (rp_want (k := 41) hN (by decide) (by decide) hS (fun σ1 h1 k1 => ?_))
              have B1 := xe_Bk B k1 h1
              have hop : xm_op (pt_T t M n) c P O = if pg_is (pt_T t M n) 41 c = true then xm_nm (pt_T t M n) (pg_exp (pt_T t M n) 41 c) (pg_pl (pt_T t M n) c) (pg_v (pt_T t M n) c) P O else (2, pg_stop c, P, O) := by
                unfold xm_op
                rw [if_neg (by rw [fa]; decide), if_neg (by rw [fb]; decide), if_neg (by rw [f152]; decide)]
              rw [hop] at hQ
              have nmv : ∀ k, rp_nk k = true → σ1.1 10 6 = 0 → rp_V t M n k (σ.1 10 5) (pg_v (pt_T t M n) c) := fun k hk z => rp_nm hk hS h1 z
              have hc1 : pg_live (pt_T t M n) (pg_exp (pt_T t M n) 41 c) → pg_is (pt_T t M n) 41 c = true ∧ (pg_exp (pt_T t M n) 41 c).1 = c.1 + 1 := fun z => ⟨rp_ex (by decide) h1 (rp_l0 h1 z), by rw [(pg_exl (by decide) z).2.2]⟩
              have hc2 : (pg_exp (pt_T t M n) 41 c).2.2 = c.2.2 := pg_oexp
              refine wq_l 172 d246_171 rfl rfl rfl rfl ?_
              refine wq_k 174 91 d246_172 (by decide) rfl ?_
              refine wq_v 177 [_] d246_174 rfl rfl m238 rfl rfl (Nat.le_of_ble_eq_true rfl) rfl (rp_sg (k := 54) hN (by decide) (by decide) h1 ?_)
              refine wq_b 198 180 d246_177 rfl (by decide) rfl (fun c177 => ?_) (fun c177 => ?_)
              · -- pc 198
                have f177 := b2z c177
                refine wq_l 199 d246_198 rfl rfl rfl rfl ?_
                refine wq_k 201 40 d246_199 (by decide) rfl ?_
                refine wq_v 204 [_] d246_201 rfl rfl m238 rfl rfl (Nat.le_of_ble_eq_true rfl) rfl (rp_sg (k := 52) hN (by decide) (by decide) h1 ?_)
                refine wq_b 254 207 d246_204 rfl (by decide) rfl (fun c204 => ?_) (fun c204 => ?_)
                · -- pc 254
                  have f204 := b2z c204
                  refine wq_l 255 d246_254 rfl rfl rfl rfl ?_
                  refine wq_gi (ci := 10) (j := 6) 258 d246_255 rfl rfl rfl rfl ?_
                  refine wq_b 271 261 d246_258 rfl (by decide) rfl (fun c258 => ?_) (fun c258 => ?_)
                  · -- pc 271
                    refine wq_k 272 0 d246_271 (by decide) rfl ?_
                    refine wq_ri d246_272 (rfl) ?_
                    have hd : ¬ σ1.1 10 6 = 0 := c258
                    have dd := rp_dd h1 hd
                    by_cases q41 : pg_is (pt_T t M n) 41 c = true
                    · rw [if_pos q41, show xm_nm (pt_T t M n) (pg_exp (pt_T t M n) 41 c) (pg_pl (pt_T t M n) c) (pg_v (pt_T t M n) c) P O = xm_gs (pg_exp (pt_T t M n) 41 c) P O [(6, pg_pl (pt_T t M n) c, pg_v (pt_T t M n) c, 1)] by
                        unfold xm_nm
                        rw [if_neg (by rw [f177]; decide), if_neg (by rw [f204]; decide), if_neg (by rw [pg_gis (pt_T t M n) (k := 59) (by decide) _ dd]; decide)]] at hQ
                      have g := xe_gvc P (pg_exp (pt_T t M n) 41 c) [(6, pg_pl (pt_T t M n) c, pg_v (pt_T t M n) c, 1)]
                      exact hQ _ _ (xe_Xd (rp_Sd h1 dd ⟨g.1, Or.inl g.2⟩ (by omega)) (rp_Wk hW k1) (pg_deq_d dd ⟨g.1, Or.inl g.2⟩))
                    · rw [if_neg q41] at hQ
                      have e := xs_ef (T := pt_T t M n) (e := 41) (c := c) (by simpa using q41)
                      rw [e] at h1
                      exact hQ _ _ (xe_Xd (rp_Se h1 rfl (by omega)) (rp_Wk hW k1) pg_stopd)
                  · -- pc 261
                    have z1 : σ1.1 10 6 = 0 := Classical.not_not.mp c258
                    have hlv := rp_lv h1 z1
                    have h41 := hc1 hlv
                    rw [if_pos h41.1, show xm_nm (pt_T t M n) (pg_exp (pt_T t M n) 41 c) (pg_pl (pt_T t M n) c) (pg_v (pt_T t M n) c) P O = xm_gs (rp_nmc (pt_T t M n) (pg_exp (pt_T t M n) 41 c)) P O (rp_nml (pt_T t M n) (pg_pl (pt_T t M n) c) (pg_v (pt_T t M n) c) (pg_exp (pt_T t M n) 41 c)) by
                      unfold xm_nm rp_nmc rp_nml
                      rw [if_neg (by rw [f177]; decide), if_neg (by rw [f204]; decide)]
                      by_cases q : pg_is (pt_T t M n) 59 (pg_exp (pt_T t M n) 41 c) = true
                      · rw [if_pos q, if_pos q, if_pos q]
                      · rw [if_neg q, if_neg q, if_neg q]] at hQ
                    refine wq_l 262 d246_261 rfl rfl rfl rfl ?_
                    refine wq_l 263 d246_262 rfl rfl rfl rfl ?_
                    refine wq_l 264 d246_263 rfl rfl rfl rfl ?_
                    refine wq_l 265 d246_264 rfl rfl rfl rfl ?_
                    refine wq_v 268 [_, _] d246_265 rfl rfl m239 rfl rfl (Nat.le_of_ble_eq_true rfl) rfl (rp239 (p := pg_pl (pt_T t M n) c) (v := pg_v (pt_T t M n) c) hN (by omega) h1 (fun w => ⟨hpl, nmv 6 (by decide) w, nmv 33 (by decide) w⟩) (fun σ2 h2 e h3 o3 x3 h4 => ?_))
                    have hon : (rp_nmc (pt_T t M n) (pg_exp (pt_T t M n) 41 c)).2.2 = c.2.2 ∧ (pg_exp (pt_T t M n) 41 c).1 ≤ (rp_nmc (pt_T t M n) (pg_exp (pt_T t M n) 41 c)).1 := by
                      unfold rp_nmc
                      split
                      · exact ⟨by rw [pg_oexp, pg_ostp, pg_oexp], Nat.le_trans pg_istp pg_iexp⟩
                      · exact ⟨hc2, Nat.le_refl _⟩
                    obtain ⟨x, la, e1, e2, B2⟩ := xe_Bo B1 o3 x3 (rp_St (s' := s) h3 (by omega))
                    refine wq_v 271 [_] d246_268 rfl rfl m249 rfl rfl (Nat.le_of_ble_eq_true rfl) rfl (xe249 (by omega) (by omega) B2 e2 e1 (fun _ => by omega) (fun σ6 h6 B6 => ?_))
                    refine wq_k 272 0 d246_271 (by decide) rfl ?_
                    refine wq_ri d246_272 (rfl) ?_
                    refine hQ _ _ (xe_Xg B6 (by omega) (fun z => ?_))
                    have q5 := (xe_Bl B6).2.2.2.1.2.2
                    rw [(xe_gvc P _ _).1] at q5
                    omega
                · -- pc 207
                  have f204 := b2n c204
                  have hlv := pg_isl f204 (by decide)
                  have h41 := hc1 hlv.1
                  rw [if_pos h41.1, show xm_nm (pt_T t M n) (pg_exp (pt_T t M n) 41 c) (pg_pl (pt_T t M n) c) (pg_v (pt_T t M n) c) P O = (if pg_is (pt_T t M n) 53 (pg_opn (pg_exp (pt_T t M n) 41 c)) = true then xm_gs (pg_exp (pt_T t M n) 53 (pg_dec (pg_opn (pg_exp (pt_T t M n) 41 c)))) P O [(34, pg_pl (pt_T t M n) c, pg_v (pt_T t M n) c, 1)] else (0, pg_opn (pg_exp (pt_T t M n) 41 c), (34, pg_pl (pt_T t M n) c, pg_v (pt_T t M n) c, []) :: P, O)) by unfold xm_nm; rw [if_neg (by rw [f177]; decide), if_pos f204]] at hQ
                  refine wq_l 208 d246_207 rfl rfl rfl rfl ?_
                  refine wq_k 210 34 d246_208 (by decide) rfl ?_
                  refine wq_l 211 d246_210 rfl rfl rfl rfl ?_
                  refine wq_l 212 d246_211 rfl rfl rfl rfl ?_
                  refine wq_v 215 [_, _, _] d246_212 rfl rfl m202 rfl rfl (Nat.le_of_ble_eq_true rfl) rfl (rp_mk2 hN (by omega) h1 (fun σ2 h2 m2 x2 => ?_))
                  obtain ⟨x, la, e1, e2, B2⟩ := xe_Bo B1 (rp_Oq1 (k := 34) (p := pg_pl (pt_T t M n) c) (v := pg_v (pt_T t M n) c) h1.2.1 m2 (fun w => ⟨hpl, nmv 34 (by decide) (m2.2.1 w)⟩)) x2 h2
                  refine wq_s 216 d246_215 rfl rfl (Nat.le_of_ble_eq_true rfl) rfl rfl ?_
                  refine wq_l 217 d246_216 rfl rfl rfl rfl ?_
                  refine wq_v 220 [] d246_217 rfl rfl m248 rfl rfl (Nat.le_of_ble_eq_true rfl) rfl (rp_deep hN hlv h2 (fun σ3 h3 k3 => ?_))
                  have B3 := xe_Bk B2 k3 h3
                  refine wq_l 221 d246_220 rfl rfl rfl rfl ?_
                  refine wq_k 224 241 d246_221 (by decide) rfl ?_
                  refine wq_v 227 [_] d246_224 rfl rfl m233 rfl rfl (Nat.le_of_ble_eq_true rfl) rfl (rp_take (k := 53) hN (by decide) (by decide) h3 (fun σ4 h4 k4 => ?_))
                  refine wq_b 247 230 d246_227 rfl (by decide) rfl (fun c227 => ?_) (fun c227 => ?_)
                  · -- pc 247
                    have f227 := b2z c227
                    rw [if_neg (by rw [f227]; decide)] at hQ h4
                    have B4 := xe_Bk B3 k4 h4
                    have B5 := xe_Bu (i := (34, pg_pl (pt_T t M n) c, pg_v (pt_T t M n) c, [])) B4 (xe_it (show (34 : Nat) ≤ 98 by decide) e2 (fun z => absurd z (by decide : ¬ (34 : Nat) = 35)) rfl)
                    rw [show xe_c (x :: la) = nI h.1 from congrArg nI e1] at B5
                    refine wq_l 248 d246_247 rfl rfl rfl rfl ?_
                    refine wq_l 249 d246_248 rfl rfl rfl rfl ?_
                    refine wq_v 252 [_] d246_249 rfl rfl m247 rfl rfl (Nat.le_of_ble_eq_true rfl) rfl (sp247 (k := P.length) (xe_Bl B4).1 (by omega) ?_)
                    refine wq_k 253 1 d246_252 (by decide) rfl ?_
                    refine wq_ri d246_253 (rfl) ?_
                    refine hQ _ _ (xe_Xm B5 (by omega) (fun z => ?_))
                    have q1 := xe_ln z
                    have q2 := xe_k0 (i := ((34, pg_pl (pt_T t M n) c, pg_v (pt_T t M n) c, []) : xm_I)) (P := P) (show (34 : Nat) ≠ 35 by decide)
                    have q3 : (rp_nw h).1 = h.1 + 1 := rfl
                    rw [if_pos rfl]
                    omega
                  · -- pc 230
                    have f227 := b2n c227
                    have l3 := pg_isl f227 (by decide)
                    have q0 := xe_ln l3.1
                    have q9 := xe_ls l3.1
                    rw [if_pos f227] at hQ h4
                    have B4 := xe_Bk B3 k4 h4
                    have h5 := rp_dec h4 (fun _ => by omega)
                    have q3 : (rp_nw h).1 = h.1 + 1 := rfl
                    have q6 : (pg_dec (pg_stp (pg_opn (pg_exp (pt_T t M n) 41 c)))).2.2 = (pg_stp (pg_opn (pg_exp (pt_T t M n) 41 c))).2.2 - 1 := rfl
                    have q7 : (pg_dec (pg_stp (pg_opn (pg_exp (pt_T t M n) 41 c)))).1 = (pg_stp (pg_opn (pg_exp (pt_T t M n) 41 c))).1 := rfl
                    have B5 := xe_Bs (s' := s) (xe_Bk B4 rp_pi8 h5) (by omega)
                    refine wq_l 231 d246_230 rfl rfl rfl rfl ?_
                    refine wq_a 232 d246_231 rfl rfl ?_
                    refine wq_gi (ci := 10) (j := 8) 235 d246_232 rfl rfl rfl rfl ?_
                    refine wq_k 236 1 d246_235 (by decide) rfl ?_
                    refine wq_a 237 d246_236 rfl rfl ?_
                    refine wq_pf (ci := 10) (j := 8) 240 d246_237 rfl rfl rfl ⟨rfl, rfl⟩ rfl ?_
                    refine wq_l 241 d246_240 rfl rfl rfl rfl ?_
                    refine wq_l 242 d246_241 rfl rfl rfl rfl ?_
                    refine wq_v 245 [_] d246_242 rfl rfl m249 rfl rfl (Nat.le_of_ble_eq_true rfl) rfl (xe249 (by omega) (by omega) B5 e2 e1 (fun _ => by omega) (fun σ6 h6 B6 => ?_))
                    refine wq_k 246 0 d246_245 (by decide) rfl ?_
                    refine wq_ri d246_246 (rfl) ?_
                    have ed : pg_exp (pt_T t M n) 53 (pg_dec (pg_opn (pg_exp (pt_T t M n) 41 c))) = pg_dec (pg_stp (pg_opn (pg_exp (pt_T t M n) 41 c))) := by
                      rw [pg_stpl (T := pt_T t M n) l3.1.1]
                      exact if_pos (pg_isk f227)
                    rw [ed] at hQ
                    refine hQ _ _ (xe_Xg B6 (by omega) (fun z => ?_))
                    have q5 := (xe_Bl B6).2.2.2.1.2.2
                    rw [(xe_gvc P _ _).1] at q5
                    omega
              · -- pc 180
                have f177 := b2n c177
                have hlv := pg_isl f177 (by decide)
                have h41 := hc1 hlv.1
                rw [if_pos h41.1, show xm_nm (pt_T t M n) (pg_exp (pt_T t M n) 41 c) (pg_pl (pt_T t M n) c) (pg_v (pt_T t M n) c) P O = (0, pg_opn (pg_exp (pt_T t M n) 41 c), (32, pg_pl (pt_T t M n) c, pg_v (pt_T t M n) c, []) :: P, O) by unfold xm_nm; rw [if_pos f177]] at hQ
                refine wq_l 181 d246_180 rfl rfl rfl rfl ?_
                refine wq_l 182 d246_181 rfl rfl rfl rfl ?_
                refine wq_k 184 32 d246_182 (by decide) rfl ?_
                refine wq_l 185 d246_184 rfl rfl rfl rfl ?_
                refine wq_l 186 d246_185 rfl rfl rfl rfl ?_
                refine wq_v 189 [_, _, _] d246_186 rfl rfl m202 rfl rfl (Nat.le_of_ble_eq_true rfl) rfl (rp_mk2 hN (by omega) h1 (fun σ2 h2 m2 x2 => ?_))
                obtain ⟨x, la, e1, e2, B2⟩ := xe_Bo B1 (rp_Oq1 (k := 32) (p := pg_pl (pt_T t M n) c) (v := pg_v (pt_T t M n) c) h1.2.1 m2 (fun w => ⟨hpl, nmv 32 (by decide) (m2.2.1 w)⟩)) x2 h2
                have B3 := xe_Bu (i := (32, pg_pl (pt_T t M n) c, pg_v (pt_T t M n) c, [])) B2 (xe_it (show (32 : Nat) ≤ 98 by decide) e2 (fun z => absurd z (by decide : ¬ (32 : Nat) = 35)) rfl)
                rw [show xe_c (x :: la) = nI h.1 from congrArg nI e1] at B3
                refine wq_v 192 [_] d246_189 rfl rfl m247 rfl rfl (Nat.le_of_ble_eq_true rfl) rfl (sp247 (k := P.length) (xe_Bl B2).1 (by omega) ?_)
                refine wq_l 193 d246_192 rfl rfl rfl rfl ?_
                refine wq_v 196 [] d246_193 rfl rfl m248 rfl rfl (Nat.le_of_ble_eq_true rfl) rfl (rp_deep hN hlv (xe_Bl B3).2.2.2.1 (fun σ4 h4 k4 => ?_))
                refine wq_k 197 1 d246_196 (by decide) rfl ?_
                refine wq_ri d246_197 (rfl) ?_
                refine hQ _ _ (xe_Xm (xe_Bk B3 k4 h4) (by omega) (fun z => ?_))
                have q1 := xe_ln z
                have q2 := xe_k0 (i := ((32, pg_pl (pt_T t M n) c, pg_v (pt_T t M n) c, []) : xm_I)) (P := P) (show (32 : Nat) ≠ 35 by decide)
                have q3 : (rp_nw h).1 = h.1 + 1 := rfl
                rw [if_pos rfl]
                omega
            · -- pc 155
              have f152 := b2n c152
              have B2 := xe_Bu (i := (99, 0, 0, [])) (xe_Bn B) ⟨by decide, by rw [if_pos rfl], fun z => absurd z (by decide : ¬ (99 : Nat) = 35), fun _ => rfl⟩
              refine wq_l 156 d246_155 rfl rfl rfl rfl ?_
              refine wq_k 157 (-1) d246_156 (by decide) rfl ?_
              refine wq_v 160 [_] d246_157 rfl rfl m247 rfl rfl (Nat.le_of_ble_eq_true rfl) rfl (sp247 (k := P.length) (xe_Bl B).1 (by omega) ?_)
              refine wq_l 161 d246_160 rfl rfl rfl rfl ?_
              refine wq_v 164 [] d246_161 rfl rfl m248 rfl rfl (Nat.le_of_ble_eq_true rfl) rfl (rp_deep hN (pg_isl f152 (by decide)) (xe_Bl B2).2.2.2.1 (fun σ3 h3 k3 => ?_))
              refine wq_k 165 1 d246_164 (by decide) rfl ?_
              refine wq_ri d246_165 (rfl) ?_
              have hx : xm_op (pt_T t M n) c P O = (0, pg_opn c, (99, 0, 0, []) :: P, O) := by unfold xm_op; rw [if_neg (by rw [fa]; decide), if_neg (by rw [fb]; decide), if_pos f152]
              rw [hx] at hQ
              refine hQ _ _ (xe_Xm (xe_Bk B2 k3 h3) (by omega) (fun z => ?_))
              have q1 := xe_ln z
              have q2 := xe_k0 (i := ((99, 0, 0, []) : xm_I)) (P := P) (show (99 : Nat) ≠ 35 by decide)
              rw [if_pos rfl]
              omega
          · -- pc 89
            have f86 := b2n c86
            have fb : pg_any (pt_T t M n) [42, 35, 36] c = true := by first | (simp only [pg_any_c, f66, Bool.true_or]; done) | (simp only [pg_any_c, f76, Bool.true_or, Bool.or_true]; done) | (simp only [pg_any_c, f86, Bool.true_or, Bool.or_true]; done)
            refine wq_l 90 d246_89 rfl rfl rfl rfl ?_
            refine wq_l 91 d246_90 rfl rfl rfl rfl ?_
            refine wq_l 92 d246_91 rfl rfl rfl rfl ?_
            refine wq_k 93 2 d246_92 (by decide) rfl ?_
            refine wq_v 96 [_] d246_93 rfl rfl m224 rfl rfl (Nat.le_of_ble_eq_true rfl) rfl (rp_is (k := 42) hN (by decide) (by decide) hS ?_)
            refine wq_b 104 99 d246_96 rfl (by decide) rfl (fun c96 => ?_) (fun c96 => ?_)
            · -- pc 104
              have f96 := b2z c96
              refine wq_k 106 31 d246_104 (by decide) rfl ?_
              refine wq_l 107 d246_106 rfl rfl rfl rfl ?_
              refine wq_l 108 d246_107 rfl rfl rfl rfl ?_
              refine wq_k 109 2 d246_108 (by decide) rfl ?_
              refine wq_v 112 [_] d246_109 rfl rfl m224 rfl rfl (Nat.le_of_ble_eq_true rfl) rfl (rp_is (k := 42) hN (by decide) (by decide) hS ?_)
              refine wq_b 119 115 d246_112 rfl (by decide) rfl (fun c112 => ?_) (fun c112 => ?_)
              · -- pc 119
                have f112 := b2z c112
                refine wq_l 120 d246_119 rfl rfl rfl rfl ?_
                refine wq_k 123 135 d246_120 (by decide) rfl ?_
                refine wq_v 126 [_] d246_123 rfl rfl m224 rfl rfl (Nat.le_of_ble_eq_true rfl) rfl (rp_is (k := 35) hN (by decide) (by decide) hS ?_)
                refine wq_b 133 129 d246_126 rfl (by decide) rfl (fun c126 => ?_) (fun c126 => ?_)
                · -- pc 133
                  have f126 := b2z c126
                  refine wq_k 134 0 d246_133 (by decide) rfl ?_
                  refine wq_v 137 [_, _, _] d246_134 rfl rfl m202 rfl rfl (Nat.le_of_ble_eq_true rfl) rfl (rp_mk2 hN (by omega) hS (fun σ1 h1 m1 x1 => ?_))
                  have hcn : pg_const (pt_T t M n) c = (pg_stp c, [(31, pg_pl (pt_T t M n) c, 0, 1)]) := xe_cn3 f86
                  obtain ⟨x, la, e1, e2, B1⟩ := xe_Bo B (rp_Oq1 (k := 31) hS.2.1 m1 (fun w => ⟨hpl, rp_V0 (v := 0) (by decide)⟩)) x1 h1
                  refine wq_v 140 [_] d246_137 rfl rfl m249 rfl rfl (Nat.le_of_ble_eq_true rfl) rfl (xe249 (by omega) (by omega) B1 e2 e1 (fun _ => by omega) (fun σ2 h2 B2 => ?_))
                  refine wq_l 141 d246_140 rfl rfl rfl rfl ?_
                  refine wq_v 144 [] d246_141 rfl rfl m203 rfl rfl (Nat.le_of_ble_eq_true rfl) rfl (rp_go hN (xe_gvl ⟨hl, (rp_anyl fb (by decide)).2⟩) (xe_Bl B2).2.2.2.1 (fun σ3 h3 k3 => ?_))
                  refine wq_k 145 0 d246_144 (by decide) rfl ?_
                  refine wq_ri d246_145 (rfl) ?_
                  have hx : xm_op (pt_T t M n) c P O = xm_gs (pg_const (pt_T t M n) c).1 P O (pg_const (pt_T t M n) c).2 := by unfold xm_op; rw [if_neg (by rw [fa]; decide), if_pos fb]
                  rw [hx, hcn] at hQ
                  have B3 := xe_Bk B2 k3 h3
                  refine hQ _ h2 (xe_Xg (c := pg_stp c) (s' := s + 1) (b := b) ?_ (by omega) (fun z => ?_))
                  · rw [xe_gvs]; exact B3
                  · have q1 := xe_ls hl
                    have q5 := (xe_Bl B2).2.2.2.1.2.2
                    rw [(xe_gvc P c _).1] at q5
                    omega
                · -- pc 129
                  have f126 := b2n c126
                  exact absurd (f76.symm.trans f126) (by decide)
              · -- pc 115
                have f112 := b2n c112
                exact absurd (f66.symm.trans f112) (by decide)
            · -- pc 99
              have f96 := b2n c96
              exact absurd (f66.symm.trans f96) (by decide)
    · -- pc 29
      have f26 := b2n c26
      have fa : pg_any (pt_T t M n) [61, 34] c = true := by first | (simp only [pg_any_c, f16, Bool.true_or]; done) | (simp only [pg_any_c, f26, Bool.true_or, Bool.or_true]; done)
      refine wq_l 30 d246_29 rfl rfl rfl rfl ?_
      refine wq_l 31 d246_30 rfl rfl rfl rfl ?_
      refine wq_k 33 36 d246_31 (by decide) rfl ?_
      refine wq_l 34 d246_33 rfl rfl rfl rfl ?_
      refine wq_l 35 d246_34 rfl rfl rfl rfl ?_
      refine wq_k 38 134 d246_35 (by decide) rfl ?_
      refine wq_v 41 [_] d246_38 rfl rfl m224 rfl rfl (Nat.le_of_ble_eq_true rfl) rfl (rp_is (k := 34) hN (by decide) (by decide) hS ?_)
      refine wq_b 48 44 d246_41 rfl (by decide) rfl (fun c41 => ?_) (fun c41 => ?_)
      · -- pc 48
        have f41 := b2z c41
        refine wq_k 49 0 d246_48 (by decide) rfl ?_
        refine wq_v 52 [_, _, _] d246_49 rfl rfl m202 rfl rfl (Nat.le_of_ble_eq_true rfl) rfl (rp_mk2 hN (by omega) hS (fun σ1 h1 m1 x1 => ?_))
        obtain ⟨x, la, e1, e2, B1⟩ := xe_Bo B (rp_Oq1 (k := 36) (p := pg_pl (pt_T t M n) c) (v := if pg_is (pt_T t M n) 34 c = true then 1 else 0) hS.2.1 m1 (fun w => ⟨hpl, by rw [f41]; exact rp_V0 (by decide)⟩)) x1 h1
        have B2 := xe_Bu (i := (36, pg_pl (pt_T t M n) c, if pg_is (pt_T t M n) 34 c = true then 1 else 0, [])) B1 (xe_it (show (36 : Nat) ≤ 98 by decide) e2 (fun z => absurd z (by decide : ¬ (36 : Nat) = 35)) rfl)
        rw [show xe_c (x :: la) = nI h.1 from congrArg nI e1] at B2
        refine wq_v 55 [_] d246_52 rfl rfl m247 rfl rfl (Nat.le_of_ble_eq_true rfl) rfl (sp247 (k := P.length) (xe_Bl B1).1 (by omega) ?_)
        refine wq_l 56 d246_55 rfl rfl rfl rfl ?_
        refine wq_v 59 [] d246_56 rfl rfl m248 rfl rfl (Nat.le_of_ble_eq_true rfl) rfl (rp_deep hN ⟨hl, fun z => (rp_anyl fa (by decide)).2 z⟩ (xe_Bl B2).2.2.2.1 (fun σ3 h3 k3 => ?_))
        refine wq_k 60 1 d246_59 (by decide) rfl ?_
        refine wq_ri d246_60 (rfl) ?_
        have hx : xm_op (pt_T t M n) c P O = (0, pg_opn c, (36, pg_pl (pt_T t M n) c, if pg_is (pt_T t M n) 34 c = true then 1 else 0, []) :: P, O) := by unfold xm_op; rw [if_pos fa]
        rw [hx] at hQ
        refine hQ _ _ (xe_Xm (xe_Bk B2 k3 h3) (by omega) (fun z => ?_))
        have q1 := xe_ln z
        have q2 := xe_k0 (i := (36, pg_pl (pt_T t M n) c, if pg_is (pt_T t M n) 34 c = true then 1 else 0, [])) (P := P) (show (36 : Nat) ≠ 35 by decide)
        have q3 : (rp_nw h).1 = h.1 + 1 := rfl
        rw [if_pos rfl]
        omega
      · -- pc 44
        have f41 := b2n c41
        refine wq_k 45 1 d246_44 (by decide) rfl ?_
        refine wq_g 49 d246_45 (by decide) ?_
        refine wq_v 52 [_, _, _] d246_49 rfl rfl m202 rfl rfl (Nat.le_of_ble_eq_true rfl) rfl (rp_mk2 hN (by omega) hS (fun σ1 h1 m1 x1 => ?_))
        obtain ⟨x, la, e1, e2, B1⟩ := xe_Bo B (rp_Oq1 (k := 36) (p := pg_pl (pt_T t M n) c) (v := if pg_is (pt_T t M n) 34 c = true then 1 else 0) hS.2.1 m1 (fun w => ⟨hpl, by rw [f41]; exact rp_V0 (by decide)⟩)) x1 h1
        have B2 := xe_Bu (i := (36, pg_pl (pt_T t M n) c, if pg_is (pt_T t M n) 34 c = true then 1 else 0, [])) B1 (xe_it (show (36 : Nat) ≤ 98 by decide) e2 (fun z => absurd z (by decide : ¬ (36 : Nat) = 35)) rfl)
        rw [show xe_c (x :: la) = nI h.1 from congrArg nI e1] at B2
        refine wq_v 55 [_] d246_52 rfl rfl m247 rfl rfl (Nat.le_of_ble_eq_true rfl) rfl (sp247 (k := P.length) (xe_Bl B1).1 (by omega) ?_)
        refine wq_l 56 d246_55 rfl rfl rfl rfl ?_
        refine wq_v 59 [] d246_56 rfl rfl m248 rfl rfl (Nat.le_of_ble_eq_true rfl) rfl (rp_deep hN ⟨hl, fun z => (rp_anyl fa (by decide)).2 z⟩ (xe_Bl B2).2.2.2.1 (fun σ3 h3 k3 => ?_))
        refine wq_k 60 1 d246_59 (by decide) rfl ?_
        refine wq_ri d246_60 (rfl) ?_
        have hx : xm_op (pt_T t M n) c P O = (0, pg_opn c, (36, pg_pl (pt_T t M n) c, if pg_is (pt_T t M n) 34 c = true then 1 else 0, []) :: P, O) := by unfold xm_op; rw [if_pos fa]
        rw [hx] at hQ
        refine hQ _ _ (xe_Xm (xe_Bk B2 k3 h3) (by omega) (fun z => ?_))
        have q1 := xe_ln z
        have q2 := xe_k0 (i := (36, pg_pl (pt_T t M n) c, if pg_is (pt_T t M n) 34 c = true then 1 else 0, [])) (P := P) (show (36 : Nat) ≠ 35 by decide)
        have q3 : (rp_nw h).1 = h.1 + 1 := rfl
        rw [if_pos rfl]
        omega
