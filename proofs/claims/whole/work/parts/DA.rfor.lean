theorem d300_0 : decode prog_14_method_109_code 0 = .ok (.aload_n 0, 1) := by decide +kernel
theorem d300_1 : decode prog_14_method_109_code 1 = .ok (.aload_n 0, 1) := by decide +kernel
theorem d300_2 : decode prog_14_method_109_code 2 = .ok (.getfield 35, 3) := by decide +kernel
theorem d300_5 : decode prog_14_method_109_code 5 = .ok (.iload_n 1, 1) := by decide +kernel
theorem d300_6 : decode prog_14_method_109_code 6 = .ok (.iaload, 1) := by decide +kernel
theorem d300_7 : decode prog_14_method_109_code 7 = .ok (.iconst 0, 1) := by decide +kernel
theorem d300_8 : decode prog_14_method_109_code 8 = .ok (.invokevirtual 593, 3) := by decide +kernel
theorem d300_11 : decode prog_14_method_109_code 11 = .ok (.istore_n 2, 1) := by decide +kernel
theorem d300_12 : decode prog_14_method_109_code 12 = .ok (.iload_n 2, 1) := by decide +kernel
theorem d300_13 : decode prog_14_method_109_code 13 = .ok (.ifCond .le 5, 3) := by decide +kernel
theorem d300_16 : decode prog_14_method_109_code 16 = .ok (.iload_n 2, 1) := by decide +kernel
theorem d300_17 : decode prog_14_method_109_code 17 = .ok (.ireturn, 1) := by decide +kernel
theorem d300_18 : decode prog_14_method_109_code 18 = .ok (.aload_n 0, 1) := by decide +kernel
theorem d300_19 : decode prog_14_method_109_code 19 = .ok (.aload_n 0, 1) := by decide +kernel
theorem d300_20 : decode prog_14_method_109_code 20 = .ok (.getfield 35, 3) := by decide +kernel
theorem d300_23 : decode prog_14_method_109_code 23 = .ok (.iload_n 1, 1) := by decide +kernel
theorem d300_24 : decode prog_14_method_109_code 24 = .ok (.iaload, 1) := by decide +kernel
theorem d300_25 : decode prog_14_method_109_code 25 = .ok (.invokevirtual 590, 3) := by decide +kernel
theorem d300_28 : decode prog_14_method_109_code 28 = .ok (.istore_n 3, 1) := by decide +kernel
theorem d300_29 : decode prog_14_method_109_code 29 = .ok (.aload_n 0, 1) := by decide +kernel
theorem d300_30 : decode prog_14_method_109_code 30 = .ok (.getfield 95, 3) := by decide +kernel
theorem d300_33 : decode prog_14_method_109_code 33 = .ok (.iload_n 3, 1) := by decide +kernel
theorem d300_34 : decode prog_14_method_109_code 34 = .ok (.iaload, 1) := by decide +kernel
theorem d300_35 : decode prog_14_method_109_code 35 = .ok (.ifCond .ne 6, 3) := by decide +kernel
theorem d300_38 : decode prog_14_method_109_code 38 = .ok (.bipush 22, 2) := by decide +kernel
theorem d300_40 : decode prog_14_method_109_code 40 = .ok (.ireturn, 1) := by decide +kernel
theorem d300_41 : decode prog_14_method_109_code 41 = .ok (.aload_n 0, 1) := by decide +kernel
theorem d300_42 : decode prog_14_method_109_code 42 = .ok (.iload_n 1, 1) := by decide +kernel
theorem d300_43 : decode prog_14_method_109_code 43 = .ok (.aload_n 0, 1) := by decide +kernel
theorem d300_44 : decode prog_14_method_109_code 44 = .ok (.getfield 35, 3) := by decide +kernel
theorem d300_47 : decode prog_14_method_109_code 47 = .ok (.iload_n 1, 1) := by decide +kernel
theorem d300_48 : decode prog_14_method_109_code 48 = .ok (.iaload, 1) := by decide +kernel
theorem d300_49 : decode prog_14_method_109_code 49 = .ok (.invokevirtual 624, 3) := by decide +kernel
theorem d300_52 : decode prog_14_method_109_code 52 = .ok (.istore_n 2, 1) := by decide +kernel
theorem d300_53 : decode prog_14_method_109_code 53 = .ok (.iload_n 2, 1) := by decide +kernel
theorem d300_54 : decode prog_14_method_109_code 54 = .ok (.ifCond .le 5, 3) := by decide +kernel
theorem d300_57 : decode prog_14_method_109_code 57 = .ok (.iload_n 2, 1) := by decide +kernel
theorem d300_58 : decode prog_14_method_109_code 58 = .ok (.ireturn, 1) := by decide +kernel
theorem d300_59 : decode prog_14_method_109_code 59 = .ok (.aload_n 0, 1) := by decide +kernel
theorem d300_60 : decode prog_14_method_109_code 60 = .ok (.getfield 53, 3) := by decide +kernel
theorem d300_63 : decode prog_14_method_109_code 63 = .ok (.iload_n 1, 1) := by decide +kernel
theorem d300_64 : decode prog_14_method_109_code 64 = .ok (.aload_n 0, 1) := by decide +kernel
theorem d300_65 : decode prog_14_method_109_code 65 = .ok (.getfield 104, 3) := by decide +kernel
theorem d300_68 : decode prog_14_method_109_code 68 = .ok (.iload_n 3, 1) := by decide +kernel
theorem d300_69 : decode prog_14_method_109_code 69 = .ok (.iaload, 1) := by decide +kernel
theorem d300_70 : decode prog_14_method_109_code 70 = .ok (.iastore, 1) := by decide +kernel
theorem d300_71 : decode prog_14_method_109_code 71 = .ok (.aload_n 0, 1) := by decide +kernel
theorem d300_72 : decode prog_14_method_109_code 72 = .ok (.getfield 38, 3) := by decide +kernel
theorem d300_75 : decode prog_14_method_109_code 75 = .ok (.iload_n 1, 1) := by decide +kernel
theorem d300_76 : decode prog_14_method_109_code 76 = .ok (.iaload, 1) := by decide +kernel
theorem d300_77 : decode prog_14_method_109_code 77 = .ok (.istore 4, 2) := by decide +kernel
theorem d300_79 : decode prog_14_method_109_code 79 = .ok (.aload_n 0, 1) := by decide +kernel
theorem d300_80 : decode prog_14_method_109_code 80 = .ok (.getfield 44, 3) := by decide +kernel
theorem d300_83 : decode prog_14_method_109_code 83 = .ok (.iload 4, 2) := by decide +kernel
theorem d300_85 : decode prog_14_method_109_code 85 = .ok (.iaload, 1) := by decide +kernel
theorem d300_86 : decode prog_14_method_109_code 86 = .ok (.istore 5, 2) := by decide +kernel
theorem d300_88 : decode prog_14_method_109_code 88 = .ok (.aload_n 0, 1) := by decide +kernel
theorem d300_89 : decode prog_14_method_109_code 89 = .ok (.getfield 29, 3) := by decide +kernel
theorem d300_92 : decode prog_14_method_109_code 92 = .ok (.aload_n 0, 1) := by decide +kernel
theorem d300_93 : decode prog_14_method_109_code 93 = .ok (.getfield 44, 3) := by decide +kernel
theorem d300_96 : decode prog_14_method_109_code 96 = .ok (.iload 5, 2) := by decide +kernel
theorem d300_98 : decode prog_14_method_109_code 98 = .ok (.iaload, 1) := by decide +kernel
theorem d300_99 : decode prog_14_method_109_code 99 = .ok (.iaload, 1) := by decide +kernel
theorem d300_100 : decode prog_14_method_109_code 100 = .ok (.bipush 11, 2) := by decide +kernel
theorem d300_102 : decode prog_14_method_109_code 102 = .ok (.if_icmp .ne 7, 3) := by decide +kernel
theorem d300_105 : decode prog_14_method_109_code 105 = .ok (.iconst (-1), 1) := by decide +kernel
theorem d300_106 : decode prog_14_method_109_code 106 = .ok (.goto 10, 3) := by decide +kernel
theorem d300_109 : decode prog_14_method_109_code 109 = .ok (.aload_n 0, 1) := by decide +kernel
theorem d300_110 : decode prog_14_method_109_code 110 = .ok (.getfield 44, 3) := by decide +kernel
theorem d300_113 : decode prog_14_method_109_code 113 = .ok (.iload 5, 2) := by decide +kernel
theorem d300_115 : decode prog_14_method_109_code 115 = .ok (.iaload, 1) := by decide +kernel
theorem d300_116 : decode prog_14_method_109_code 116 = .ok (.istore 6, 2) := by decide +kernel
theorem d300_118 : decode prog_14_method_109_code 118 = .ok (.aload_n 0, 1) := by decide +kernel
theorem d300_119 : decode prog_14_method_109_code 119 = .ok (.getfield 29, 3) := by decide +kernel
theorem d300_122 : decode prog_14_method_109_code 122 = .ok (.iload 4, 2) := by decide +kernel
theorem d300_124 : decode prog_14_method_109_code 124 = .ok (.iaload, 1) := by decide +kernel
theorem d300_125 : decode prog_14_method_109_code 125 = .ok (.aload_n 0, 1) := by decide +kernel
theorem d300_126 : decode prog_14_method_109_code 126 = .ok (.getfield 35, 3) := by decide +kernel
theorem d300_129 : decode prog_14_method_109_code 129 = .ok (.iload 4, 2) := by decide +kernel
theorem d300_131 : decode prog_14_method_109_code 131 = .ok (.iaload, 1) := by decide +kernel
theorem d300_132 : decode prog_14_method_109_code 132 = .ok (.aload_n 0, 1) := by decide +kernel
theorem d300_133 : decode prog_14_method_109_code 133 = .ok (.getfield 95, 3) := by decide +kernel
theorem d300_136 : decode prog_14_method_109_code 136 = .ok (.iload_n 3, 1) := by decide +kernel
theorem d300_137 : decode prog_14_method_109_code 137 = .ok (.iaload, 1) := by decide +kernel
theorem d300_138 : decode prog_14_method_109_code 138 = .ok (.invokestatic 583, 3) := by decide +kernel
theorem d300_141 : decode prog_14_method_109_code 141 = .ok (.ifCond .ne 70, 3) := by decide +kernel
theorem d300_144 : decode prog_14_method_109_code 144 = .ok (.aload_n 0, 1) := by decide +kernel
theorem d300_145 : decode prog_14_method_109_code 145 = .ok (.getfield 29, 3) := by decide +kernel
theorem d300_148 : decode prog_14_method_109_code 148 = .ok (.iload 5, 2) := by decide +kernel
theorem d300_150 : decode prog_14_method_109_code 150 = .ok (.iaload, 1) := by decide +kernel
theorem d300_151 : decode prog_14_method_109_code 151 = .ok (.aload_n 0, 1) := by decide +kernel
theorem d300_152 : decode prog_14_method_109_code 152 = .ok (.getfield 35, 3) := by decide +kernel
theorem d300_155 : decode prog_14_method_109_code 155 = .ok (.iload 5, 2) := by decide +kernel
theorem d300_157 : decode prog_14_method_109_code 157 = .ok (.iaload, 1) := by decide +kernel
theorem d300_158 : decode prog_14_method_109_code 158 = .ok (.aload_n 0, 1) := by decide +kernel
theorem d300_159 : decode prog_14_method_109_code 159 = .ok (.getfield 95, 3) := by decide +kernel
theorem d300_162 : decode prog_14_method_109_code 162 = .ok (.iload_n 3, 1) := by decide +kernel
theorem d300_163 : decode prog_14_method_109_code 163 = .ok (.iaload, 1) := by decide +kernel
theorem d300_164 : decode prog_14_method_109_code 164 = .ok (.invokestatic 583, 3) := by decide +kernel
theorem d300_167 : decode prog_14_method_109_code 167 = .ok (.ifCond .ne 44, 3) := by decide +kernel
theorem d300_170 : decode prog_14_method_109_code 170 = .ok (.iload 6, 2) := by decide +kernel
theorem d300_172 : decode prog_14_method_109_code 172 = .ok (.ifCond .lt 43, 3) := by decide +kernel
theorem d300_175 : decode prog_14_method_109_code 175 = .ok (.aload_n 0, 1) := by decide +kernel
theorem d300_176 : decode prog_14_method_109_code 176 = .ok (.getfield 29, 3) := by decide +kernel
theorem d300_179 : decode prog_14_method_109_code 179 = .ok (.iload 6, 2) := by decide +kernel
theorem d300_181 : decode prog_14_method_109_code 181 = .ok (.iaload, 1) := by decide +kernel
theorem d300_182 : decode prog_14_method_109_code 182 = .ok (.aload_n 0, 1) := by decide +kernel
theorem d300_183 : decode prog_14_method_109_code 183 = .ok (.getfield 35, 3) := by decide +kernel
theorem d300_186 : decode prog_14_method_109_code 186 = .ok (.iload 6, 2) := by decide +kernel
theorem d300_188 : decode prog_14_method_109_code 188 = .ok (.iaload, 1) := by decide +kernel
theorem d300_189 : decode prog_14_method_109_code 189 = .ok (.aload_n 0, 1) := by decide +kernel
theorem d300_190 : decode prog_14_method_109_code 190 = .ok (.getfield 95, 3) := by decide +kernel
theorem d300_193 : decode prog_14_method_109_code 193 = .ok (.iload_n 3, 1) := by decide +kernel
theorem d300_194 : decode prog_14_method_109_code 194 = .ok (.iaload, 1) := by decide +kernel
theorem d300_195 : decode prog_14_method_109_code 195 = .ok (.invokestatic 583, 3) := by decide +kernel
theorem d300_198 : decode prog_14_method_109_code 198 = .ok (.ifCond .ne 13, 3) := by decide +kernel
theorem d300_201 : decode prog_14_method_109_code 201 = .ok (.aload_n 0, 1) := by decide +kernel
theorem d300_202 : decode prog_14_method_109_code 202 = .ok (.getfield 35, 3) := by decide +kernel
theorem d300_205 : decode prog_14_method_109_code 205 = .ok (.iload 6, 2) := by decide +kernel
theorem d300_207 : decode prog_14_method_109_code 207 = .ok (.iaload, 1) := by decide +kernel
theorem d300_208 : decode prog_14_method_109_code 208 = .ok (.ifCond .ne 7, 3) := by decide +kernel
theorem d300_211 : decode prog_14_method_109_code 211 = .ok (.iconst 1, 1) := by decide +kernel
theorem d300_212 : decode prog_14_method_109_code 212 = .ok (.goto 4, 3) := by decide +kernel
theorem d300_215 : decode prog_14_method_109_code 215 = .ok (.iconst 0, 1) := by decide +kernel
theorem d300_216 : decode prog_14_method_109_code 216 = .ok (.istore 7, 2) := by decide +kernel
theorem d300_218 : decode prog_14_method_109_code 218 = .ok (.iload 7, 2) := by decide +kernel
theorem d300_220 : decode prog_14_method_109_code 220 = .ok (.ifCond .eq 6, 3) := by decide +kernel
theorem d300_223 : decode prog_14_method_109_code 223 = .ok (.bipush 36, 2) := by decide +kernel
theorem d300_225 : decode prog_14_method_109_code 225 = .ok (.ireturn, 1) := by decide +kernel
theorem d300_226 : decode prog_14_method_109_code 226 = .ok (.iload 6, 2) := by decide +kernel
theorem d300_228 : decode prog_14_method_109_code 228 = .ok (.ifCond .ge 7, 3) := by decide +kernel
theorem d300_231 : decode prog_14_method_109_code 231 = .ok (.lconst 1, 1) := by decide +kernel
theorem d300_232 : decode prog_14_method_109_code 232 = .ok (.goto 11, 3) := by decide +kernel
theorem d300_235 : decode prog_14_method_109_code 235 = .ok (.aload_n 0, 1) := by decide +kernel
theorem d300_236 : decode prog_14_method_109_code 236 = .ok (.getfield 35, 3) := by decide +kernel
theorem d300_239 : decode prog_14_method_109_code 239 = .ok (.iload 6, 2) := by decide +kernel
theorem d300_241 : decode prog_14_method_109_code 241 = .ok (.iaload, 1) := by decide +kernel
theorem d300_242 : decode prog_14_method_109_code 242 = .ok (.i2l, 1) := by decide +kernel
theorem d300_243 : decode prog_14_method_109_code 243 = .ok (.lstore 8, 2) := by decide +kernel
theorem d300_245 : decode prog_14_method_109_code 245 = .ok (.aload_n 0, 1) := by decide +kernel
theorem d300_246 : decode prog_14_method_109_code 246 = .ok (.getfield 35, 3) := by decide +kernel
theorem d300_249 : decode prog_14_method_109_code 249 = .ok (.iload 5, 2) := by decide +kernel
theorem d300_251 : decode prog_14_method_109_code 251 = .ok (.iaload, 1) := by decide +kernel
theorem d300_252 : decode prog_14_method_109_code 252 = .ok (.i2l, 1) := by decide +kernel
theorem d300_253 : decode prog_14_method_109_code 253 = .ok (.aload_n 0, 1) := by decide +kernel
theorem d300_254 : decode prog_14_method_109_code 254 = .ok (.getfield 35, 3) := by decide +kernel
theorem d300_257 : decode prog_14_method_109_code 257 = .ok (.iload 4, 2) := by decide +kernel
theorem d300_259 : decode prog_14_method_109_code 259 = .ok (.iaload, 1) := by decide +kernel
theorem d300_260 : decode prog_14_method_109_code 260 = .ok (.i2l, 1) := by decide +kernel
theorem d300_261 : decode prog_14_method_109_code 261 = .ok (.lsub, 1) := by decide +kernel
theorem d300_262 : decode prog_14_method_109_code 262 = .ok (.lstore 10, 2) := by decide +kernel
theorem d300_264 : decode prog_14_method_109_code 264 = .ok (.lload 8, 2) := by decide +kernel
theorem d300_266 : decode prog_14_method_109_code 266 = .ok (.lconst 0, 1) := by decide +kernel
theorem d300_267 : decode prog_14_method_109_code 267 = .ok (.lcmp, 1) := by decide +kernel
theorem d300_268 : decode prog_14_method_109_code 268 = .ok (.ifCond .le 24, 3) := by decide +kernel
theorem d300_271 : decode prog_14_method_109_code 271 = .ok (.lload 10, 2) := by decide +kernel
theorem d300_273 : decode prog_14_method_109_code 273 = .ok (.lconst 0, 1) := by decide +kernel
theorem d300_274 : decode prog_14_method_109_code 274 = .ok (.lcmp, 1) := by decide +kernel
theorem d300_275 : decode prog_14_method_109_code 275 = .ok (.ifCond .ge 7, 3) := by decide +kernel
theorem d300_278 : decode prog_14_method_109_code 278 = .ok (.lconst 0, 1) := by decide +kernel
theorem d300_279 : decode prog_14_method_109_code 279 = .ok (.goto 31, 3) := by decide +kernel
theorem d300_282 : decode prog_14_method_109_code 282 = .ok (.lload 10, 2) := by decide +kernel
theorem d300_284 : decode prog_14_method_109_code 284 = .ok (.lload 8, 2) := by decide +kernel
theorem d300_286 : decode prog_14_method_109_code 286 = .ok (.ldiv, 1) := by decide +kernel
theorem d300_287 : decode prog_14_method_109_code 287 = .ok (.lconst 1, 1) := by decide +kernel
theorem d300_288 : decode prog_14_method_109_code 288 = .ok (.ladd, 1) := by decide +kernel
theorem d300_289 : decode prog_14_method_109_code 289 = .ok (.goto 21, 3) := by decide +kernel
theorem d300_292 : decode prog_14_method_109_code 292 = .ok (.lload 10, 2) := by decide +kernel
theorem d300_294 : decode prog_14_method_109_code 294 = .ok (.lconst 0, 1) := by decide +kernel
theorem d300_295 : decode prog_14_method_109_code 295 = .ok (.lcmp, 1) := by decide +kernel
theorem d300_296 : decode prog_14_method_109_code 296 = .ok (.ifCond .le 7, 3) := by decide +kernel
theorem d300_299 : decode prog_14_method_109_code 299 = .ok (.lconst 0, 1) := by decide +kernel
theorem d300_300 : decode prog_14_method_109_code 300 = .ok (.goto 10, 3) := by decide +kernel
theorem d300_303 : decode prog_14_method_109_code 303 = .ok (.lload 10, 2) := by decide +kernel
theorem d300_305 : decode prog_14_method_109_code 305 = .ok (.lload 8, 2) := by decide +kernel
theorem d300_307 : decode prog_14_method_109_code 307 = .ok (.ldiv, 1) := by decide +kernel
theorem d300_308 : decode prog_14_method_109_code 308 = .ok (.lconst 1, 1) := by decide +kernel
theorem d300_309 : decode prog_14_method_109_code 309 = .ok (.ladd, 1) := by decide +kernel
theorem d300_310 : decode prog_14_method_109_code 310 = .ok (.lstore 12, 2) := by decide +kernel
theorem d300_312 : decode prog_14_method_109_code 312 = .ok (.lload 12, 2) := by decide +kernel
theorem d300_314 : decode prog_14_method_109_code 314 = .ok (.ldc2_w 627, 3) := by decide +kernel
theorem d300_317 : decode prog_14_method_109_code 317 = .ok (.lcmp, 1) := by decide +kernel
theorem d300_318 : decode prog_14_method_109_code 318 = .ok (.ifCond .le 8, 3) := by decide +kernel
theorem d300_321 : decode prog_14_method_109_code 321 = .ok (.bipush 36, 2) := by decide +kernel
theorem d300_323 : decode prog_14_method_109_code 323 = .ok (.goto 4, 3) := by decide +kernel
theorem d300_326 : decode prog_14_method_109_code 326 = .ok (.iconst 0, 1) := by decide +kernel
theorem d300_327 : decode prog_14_method_109_code 327 = .ok (.ireturn, 1) := by decide +kernel
theorem m300 : pm_m 300 = some (⟨"TypeRulesModel", "loopRule", "(I)I"⟩, prog_14_method_109_code, 14, (some FieldType.int), 10, 1, 11) := rfl
/-! LOOPS of the reference -/
theorem rl_timd {a b s : Int64} (ha : lg_31 a.toInt) (hb : lg_31 b.toInt) (z : ¬ (s.toInt = 0 ∨ (0 < s.toInt ∧ b.toInt < a.toInt) ∨ (s.toInt < 0 ∧ a.toInt < b.toInt))) : ((b - a) / s + 1).toInt = rl_tim a.toInt b.toInt s.toInt := by
  unfold rl_tim
  rw [if_neg z]
  have q := lg_qu (s := s.toInt) ha hb
  have e1 : (b - a).toInt = b.toInt - a.toInt := by
    rw [Int64.toInt_sub, Int.bmod_eq_of_le] <;> (unfold lg_31 at *; omega)
  rw [Int64.toInt_add, Int64.toInt_div, e1, show (1 : Int64).toInt = 1 by decide, Int.bmod_eq_of_le (n := Int.tdiv _ _) (by omega) (by omega), Int.bmod_eq_of_le (by omega) (by omega)]
theorem rl_timz {a b s : Int} (z : s = 0 ∨ (0 < s ∧ b < a) ∨ (s < 0 ∧ a < b)) : rl_tim a b s = 0 := by unfold rl_tim; rw [if_pos z]
theorem lg_sb {a b : Int64} (ha : lg_31 a.toInt) (hb : lg_31 b.toInt) : (b - a).toInt = b.toInt - a.toInt := by
  rw [Int64.toInt_sub, Int.bmod_eq_of_le] <;> (unfold lg_31 at *; omega)
theorem rt_nx {l : List pg_N} {a : Nat → Nat} {R : Int32 → Int32 → Prop} {σ : pm_S} (h : rs_T l a R σ) {i q c e : Nat} (hi : i < l.length) (hc : c < l.length) (h1 : (rl_c l i)[q]? = some c) (h2 : (rl_c l i)[q + 1]? = some e) : σ.2.2 54 (nI (a c)).toNatClampNeg = nI (a e) := by
  rw [rt_c h hc, ((h.2.2.1 i hi).2.2.2.2.2.2 q c h1).2, h2]; rfl
theorem re300 {d : Nat} {l : List pg_N} {a : Nat → Nat} {R : Int32 → Int32 → Prop} {σ0 σ : pm_S} {fl : Bool} {u : Nat} {A : rl_A} {Q : Option Value → pm_S → Prop} {NN i : Nat} (hG : lg_G l NN) (h : rr_I l a R σ0 σ fl u A) (hp : pv_B A.1) (hB : A.1 ≠ []) (hs : rl_setl A) (i0 : i < l.length) (hk : rl_k l i = 19) (hQ : rr_Q l a R σ0 fl u (rl_for l A i) Q) : pm_call pm_Y0 (d + 4) 300 [.ref 10, .int (nI (a i))] σ Q := by
  rw [rl_for_u] at hQ
  obtain ⟨mm, hm, hkc, h11, hz, hc⟩ := lg_19 hG i0 hk
  have hlz := (lg_cl hG i0).1
  have hR := rt_R (rr_T h) i0 (by rw [hk]; rfl)
  have bi := rt_b (rr_T h) i0
  have em := rt_m (rr_T h) i0
  have i1 : i + 1 < l.length := by omega
  have i2' : i + 2 < l.length := by omega
  have i3 : i + 3 < l.length := by omega
  have hB9 := h.2.2.2.2.1.1
  have sl := rl_srtl (A := A) (x := rl_v l i) (s := 0)
  have es := nI_toInt (n := rl_srt A (rl_v l i) 0) (by omega)
  have al := rl_asgl (l := l) (A := A) (i := i) (x := rl_v l i)
  have ea := nI_toInt (n := rl_asg l A i (rl_v l i)) (by omega)
  have nk : ∀ j, i < j → j ≤ i + mm → rp_nk (rl_k l j) = false := fun j a1 a2 => by rcases hkc j a1 a2 with q | q <;> rw [q] <;> rfl
  have kl : ∀ j, i < j → j ≤ i + mm → rl_k l j ≤ 36 := fun j a1 a2 => by rcases hkc j a1 a2 with q | q <;> omega
  have z0 : (Int64.ofNat ((0 : Fin 2) : Nat)).toInt = 0 := by decide
  have zm : (1000000 : Int64).toInt = 1000000 := by decide
  by_cases e0 : rl_srt A (rl_v l i) 0 = 0
  · rw [if_neg (fun z => z e0)] at hQ
    refine wq_m m300 (Nat.le_of_ble_eq_true rfl) (by decide) rfl ?_
    refine wq_l 1 d300_0 rfl rfl rfl rfl ?_
    refine wq_l 2 d300_1 rfl rfl rfl rfl ?_
    refine wq_gr (ci := 10) (j := 18) (q := 51) 5 d300_2 rfl rfl rfl rfl ?_
    refine wq_l 6 d300_5 rfl rfl rfl rfl ?_
    refine wq_al 7 d300_6 rfl rfl rfl (bi) ?_
    rw [em]
    refine wq_k 8 0 d300_7 (by decide) rfl ?_
    refine wq_v 11 [_, _] d300_8 rfl rfl m292 rfl rfl (Nat.le_of_ble_eq_true rfl) rfl (re292 h hp hB hs (s := 0) (by decide) hR ?_)
    refine wq_s 12 d300_11 rfl rfl (Nat.le_of_ble_eq_true rfl) rfl rfl ?_
    refine wq_l 13 d300_12 rfl rfl rfl rfl ?_
    refine wq_b 18 16 d300_13 rfl (by decide) rfl (fun c13 => ?_) (fun c13 => absurd (by rw [e0]; decide) c13)
    refine wq_l 19 d300_18 rfl rfl rfl rfl ?_
    refine wq_l 20 d300_19 rfl rfl rfl rfl ?_
    refine wq_gr (ci := 10) (j := 18) (q := 51) 23 d300_20 rfl rfl rfl rfl ?_
    refine wq_l 24 d300_23 rfl rfl rfl rfl ?_
    refine wq_al 25 d300_24 rfl rfl rfl (bi) ?_
    rw [em]
    refine wq_v 28 [_] d300_25 rfl rfl m283 rfl rfl (Nat.le_of_ble_eq_true rfl) rfl (re283 h hp hB hR (fun e2 => ?_) (fun i2 v2 e2 f2 g2 => ?_))
    · -- fork 25
      rw [rl_srn e2] at e0
      exact absurd e0 (by decide)
      -- none
    · -- fork 25
      have m2 := rl_find_m e2
      have s2 := ((h.2.2.2.2.2.1.2.2) i2 v2 f2).2.1 (hs v2 m2)
      have ei := nI_toInt (n := i2) (by omega)
      have ec := nI_clamp (n := i2) (by omega)
      have v1 : v2.2.1 = 0 := Classical.byContradiction (fun z => by rw [rl_sr1 e2 z] at e0; exact absurd e0 (by decide))
      have tv : rv_t v2 = v2.2.2.1 := by unfold rv_t; rw [if_neg (by rw [v1]; decide)]
      rw [rl_vrs e2] at hQ
      refine wq_s 29 d300_28 rfl rfl (Nat.le_of_ble_eq_true rfl) rfl rfl ?_
      refine wq_l 30 d300_29 rfl rfl rfl rfl ?_
      refine wq_gr (ci := 10) (j := 44) (q := 71) 33 d300_30 rfl rfl rfl rfl ?_
      refine wq_l 34 d300_33 rfl rfl rfl rfl ?_
      refine wq_al 35 d300_34 rfl rfl rfl (vp_in_iff.mpr (by rw [ei]; omega)) ?_
      rw [ec, s2.2.1, tv]
      refine wq_b 41 38 d300_35 rfl (by decide) rfl (fun c35 => ?_) (fun c35 => ?_)
      · -- pc 41
        have c35n : ¬ v2.2.2.1 = 0 := c35
        refine wq_l 42 d300_41 rfl rfl rfl rfl ?_
        refine wq_l 43 d300_42 rfl rfl rfl rfl ?_
        refine wq_l 44 d300_43 rfl rfl rfl rfl ?_
        refine wq_gr (ci := 10) (j := 18) (q := 51) 47 d300_44 rfl rfl rfl rfl ?_
        refine wq_l 48 d300_47 rfl rfl rfl rfl ?_
        refine wq_al 49 d300_48 rfl rfl rfl (bi) ?_
        rw [em]
        refine wq_v 52 [_, _] d300_49 rfl rfl m288 rfl rfl (Nat.le_of_ble_eq_true rfl) rfl (re288 hG h hp hB hs (by rw [e2]; rfl) i0 hR ?_)
        refine wq_s 53 d300_52 rfl rfl (Nat.le_of_ble_eq_true rfl) rfl rfl ?_
        refine wq_l 54 d300_53 rfl rfl rfl rfl ?_
        refine wq_b 59 57 d300_54 rfl (by decide) rfl (fun c54 => ?_) (fun c54 => ?_)
        · -- pc 59
          refine wq_l 60 d300_59 rfl rfl rfl rfl ?_
          refine wq_gr (ci := 10) (j := 24) (q := 57) 63 d300_60 rfl rfl rfl rfl ?_
          refine wq_l 64 d300_63 rfl rfl rfl rfl ?_
          refine wq_l 65 d300_64 rfl rfl rfl rfl ?_
          refine wq_gr (ci := 10) (j := 47) (q := 74) 68 d300_65 rfl rfl rfl rfl ?_
          refine wq_l 69 d300_68 rfl rfl rfl rfl ?_
          refine wq_al 70 d300_69 rfl rfl rfl (vp_in_iff.mpr (by rw [ei]; omega)) ?_
          rw [ec, s2.2.2.2.2]
          refine wq_as 71 d300_70 rfl rfl rfl (bi) ?_
          rw [show pm_nr 0 (nI v2.2.2.2.2.2) = nI v2.2.2.2.2.2 from rfl]
          have e3 : rl_asg l A i (rl_v l i) = 0 := by rw [i_le, ea] at c54; have c54 : _ ≤ (0 : Int) := c54; omega
          rw [if_neg c35n, if_neg (fun z => z e3)] at hQ
          have h71 := rr_ce h i0 (nI v2.2.2.2.2.2)
          generalize pm_pr σ 57 (upd (σ.2.2 57) (nI (a i)).toNatClampNeg (nI v2.2.2.2.2.2)) = τ at h71 ⊢
          have s3 := ((h71.2.2.2.2.2.1.2.2) i2 v2 f2).2.1 (hs v2 m2)
          have T := rr_T h71
          have ef := (rt_f T hG i0).trans (if_pos (by omega))
          have hlc := lg_lc v2.2.2.1 hm hkc h11 hc
          rcases hm with hm | hm
          · have hc : rl_c l i = [i + 1, i + 2, i + 3] := by rw [hc, if_pos hm]
            have n1 := rt_nx T (q := 0) (e := i + 2) i0 i1 (by rw [hc]; rfl) (by rw [hc]; rfl)
            have n2 := rt_nx T (q := 1) (e := i + 3) i0 i2' (by rw [hc]; rfl) (by rw [hc]; rfl)
            refine wq_l 72 d300_71 rfl rfl rfl rfl ?_
            refine wq_gr (ci := 10) (j := 19) (q := 52) 75 d300_72 rfl rfl rfl rfl ?_
            refine wq_l 76 d300_75 rfl rfl rfl rfl ?_
            refine wq_al 77 d300_76 rfl rfl rfl (rt_b T i0) ?_
            rw [ef]
            refine wq_s 79 d300_77 rfl rfl (Nat.le_of_ble_eq_true rfl) rfl rfl ?_
            refine wq_l 80 d300_79 rfl rfl rfl rfl ?_
            refine wq_gr (ci := 10) (j := 21) (q := 54) 83 d300_80 rfl rfl rfl rfl ?_
            refine wq_l 85 d300_83 rfl rfl rfl rfl ?_
            refine wq_al 86 d300_85 rfl rfl rfl (rt_b T i1) ?_
            rw [n1]
            refine wq_s 88 d300_86 rfl rfl (Nat.le_of_ble_eq_true rfl) rfl rfl ?_
            refine wq_l 89 d300_88 rfl rfl rfl rfl ?_
            refine wq_gr (ci := 10) (j := 16) (q := 49) 92 d300_89 rfl rfl rfl rfl ?_
            refine wq_l 93 d300_92 rfl rfl rfl rfl ?_
            refine wq_gr (ci := 10) (j := 21) (q := 54) 96 d300_93 rfl rfl rfl rfl ?_
            refine wq_l 98 d300_96 rfl rfl rfl rfl ?_
            refine wq_al 99 d300_98 rfl rfl rfl (rt_b T i2') ?_
            rw [n2]
            refine wq_al 100 d300_99 rfl rfl rfl (rt_b T i3) ?_
            rw [rt_k T i3]
            refine wq_k 102 11 d300_100 (by decide) rfl ?_
            refine wq_b 109 105 d300_102 rfl (by decide) rfl (fun c102 => absurd c102 (fun z => z (by rw [show i + 3 = i + 1 + mm by omega, h11]; rfl))) (fun c102 => ?_)
            refine wq_k 106 (-1) d300_105 (by decide) rfl ?_
            refine wq_g 116 d300_106 (by decide) ?_
            refine wq_s 118 d300_116 rfl rfl (Nat.le_of_ble_eq_true rfl) rfl rfl ?_
            refine wq_l 119 d300_118 rfl rfl rfl rfl ?_
            refine wq_gr (ci := 10) (j := 16) (q := 49) 122 d300_119 rfl rfl rfl rfl ?_
            refine wq_l 124 d300_122 rfl rfl rfl rfl ?_
            refine wq_al 125 d300_124 rfl rfl rfl (rt_b T i1) ?_
            rw [rt_k T i1]
            refine wq_l 126 d300_125 rfl rfl rfl rfl ?_
            refine wq_gr (ci := 10) (j := 18) (q := 51) 129 d300_126 rfl rfl rfl rfl ?_
            refine wq_l 131 d300_129 rfl rfl rfl rfl ?_
            refine wq_al 132 d300_131 rfl rfl rfl (rt_b T i1) ?_
            rw [rt_v T i1 (nk _ (by omega) (by omega))]
            refine wq_l 133 d300_132 rfl rfl rfl rfl ?_
            refine wq_gr (ci := 10) (j := 44) (q := 71) 136 d300_133 rfl rfl rfl rfl ?_
            refine wq_l 137 d300_136 rfl rfl rfl rfl ?_
            refine wq_al 138 d300_137 rfl rfl rfl (vp_in_iff.mpr (by rw [ei]; omega)) ?_
            rw [ec, s3.2.1, tv]
            refine wq_vs 141 [_, _, _] d300_138 rfl rfl m280 rfl (Nat.le_of_ble_eq_true rfl) rfl (sp280 (kl _ (by omega) (by omega)) ?_)
            refine wq_b 211 144 d300_141 rfl (by decide) rfl (fun c141 => ?_) (fun c141 => ?_)
            · -- pc 211
              have f141 := b2n c141
              refine wq_k 212 1 d300_211 (by decide) rfl ?_
              refine wq_g 216 d300_212 (by decide) ?_
              refine wq_s 218 d300_216 rfl rfl (Nat.le_of_ble_eq_true rfl) rfl rfl ?_
              refine wq_l 220 d300_218 rfl rfl rfl rfl ?_
              refine wq_b 226 223 d300_220 rfl (by decide) rfl (fun c220 => absurd c220 (by decide)) (fun c220 => ?_)
              refine wq_k 225 36 d300_223 (by decide) rfl ?_
              refine wq_ri d300_225 (rfl) ?_
              rw [if_pos (hlc.mpr (Or.inl ⟨i + 1, by omega, by omega, f141⟩))] at hQ
              exact rr_q1 (k := 36) hQ (rr_Fi h71) rfl (by decide)
            · -- pc 144
              have f141 := b2y c141
              refine wq_l 145 d300_144 rfl rfl rfl rfl ?_
              refine wq_gr (ci := 10) (j := 16) (q := 49) 148 d300_145 rfl rfl rfl rfl ?_
              refine wq_l 150 d300_148 rfl rfl rfl rfl ?_
              refine wq_al 151 d300_150 rfl rfl rfl (rt_b T i2') ?_
              rw [rt_k T i2']
              refine wq_l 152 d300_151 rfl rfl rfl rfl ?_
              refine wq_gr (ci := 10) (j := 18) (q := 51) 155 d300_152 rfl rfl rfl rfl ?_
              refine wq_l 157 d300_155 rfl rfl rfl rfl ?_
              refine wq_al 158 d300_157 rfl rfl rfl (rt_b T i2') ?_
              rw [rt_v T i2' (nk _ (by omega) (by omega))]
              refine wq_l 159 d300_158 rfl rfl rfl rfl ?_
              refine wq_gr (ci := 10) (j := 44) (q := 71) 162 d300_159 rfl rfl rfl rfl ?_
              refine wq_l 163 d300_162 rfl rfl rfl rfl ?_
              refine wq_al 164 d300_163 rfl rfl rfl (vp_in_iff.mpr (by rw [ei]; omega)) ?_
              rw [ec, s3.2.1, tv]
              refine wq_vs 167 [_, _, _] d300_164 rfl rfl m280 rfl (Nat.le_of_ble_eq_true rfl) rfl (sp280 (kl _ (by omega) (by omega)) ?_)
              refine wq_b 211 170 d300_167 rfl (by decide) rfl (fun c167 => ?_) (fun c167 => ?_)
              · -- pc 211
                have f167 := b2n c167
                refine wq_k 212 1 d300_211 (by decide) rfl ?_
                refine wq_g 216 d300_212 (by decide) ?_
                refine wq_s 218 d300_216 rfl rfl (Nat.le_of_ble_eq_true rfl) rfl rfl ?_
                refine wq_l 220 d300_218 rfl rfl rfl rfl ?_
                refine wq_b 226 223 d300_220 rfl (by decide) rfl (fun c220 => absurd c220 (by decide)) (fun c220 => ?_)
                refine wq_k 225 36 d300_223 (by decide) rfl ?_
                refine wq_ri d300_225 (rfl) ?_
                rw [if_pos (hlc.mpr (Or.inl ⟨i + 2, by omega, by omega, f167⟩))] at hQ
                exact rr_q1 (k := 36) hQ (rr_Fi h71) rfl (by decide)
              · -- pc 170
                have f167 := b2y c167
                refine wq_l 172 d300_170 rfl rfl rfl rfl ?_
                refine wq_b 215 175 d300_172 rfl (by decide) rfl (fun c172 => ?_) (fun c172 => absurd (by decide) c172)
                refine wq_k 216 0 d300_215 (by decide) rfl ?_
                refine wq_s 218 d300_216 rfl rfl (Nat.le_of_ble_eq_true rfl) rfl rfl ?_
                refine wq_l 220 d300_218 rfl rfl rfl rfl ?_
                refine wq_b 226 223 d300_220 rfl (by decide) rfl (fun c220 => ?_) (fun c220 => absurd (by decide) c220)
                refine wq_l 228 d300_226 rfl rfl rfl rfl ?_
                refine wq_b 235 231 d300_228 rfl (by decide) rfl (fun c228 => absurd c228 (by decide)) (fun c228 => ?_)
                refine wq_a 232 d300_231 rfl rfl ?_
                refine wq_g 243 d300_232 (by decide) ?_
                refine wq_s 245 d300_243 rfl rfl (Nat.le_of_ble_eq_true rfl) rfl rfl ?_
                refine wq_l 246 d300_245 rfl rfl rfl rfl ?_
                refine wq_gr (ci := 10) (j := 18) (q := 51) 249 d300_246 rfl rfl rfl rfl ?_
                refine wq_l 251 d300_249 rfl rfl rfl rfl ?_
                refine wq_al 252 d300_251 rfl rfl rfl (rt_b T i2') ?_
                rw [rt_v T i2' (nk _ (by omega) (by omega))]
                refine wq_a 253 d300_252 rfl rfl ?_
                refine wq_l 254 d300_253 rfl rfl rfl rfl ?_
                refine wq_gr (ci := 10) (j := 18) (q := 51) 257 d300_254 rfl rfl rfl rfl ?_
                refine wq_l 259 d300_257 rfl rfl rfl rfl ?_
                refine wq_al 260 d300_259 rfl rfl rfl (rt_b T i1) ?_
                rw [rt_v T i1 (nk _ (by omega) (by omega))]
                refine wq_a 261 d300_260 rfl rfl ?_
                refine wq_a 262 d300_261 rfl rfl ?_
                refine wq_s 264 d300_262 rfl rfl (Nat.le_of_ble_eq_true rfl) rfl rfl ?_
                refine wq_l 266 d300_264 rfl rfl rfl rfl ?_
                refine wq_a 267 d300_266 rfl rfl ?_
                refine wq_a 268 d300_267 rfl rfl ?_
                refine wq_b 292 271 d300_268 rfl (by decide) rfl (fun c268 => absurd c268 (by decide)) (fun c268 => ?_)
                refine wq_l 273 d300_271 rfl rfl rfl rfl ?_
                refine wq_a 274 d300_273 rfl rfl ?_
                refine wq_a 275 d300_274 rfl rfl ?_
                refine wq_b 282 278 d300_275 rfl (by decide) rfl (fun c275 => ?_) (fun c275 => ?_)
                · -- pc 282
                  refine wq_l 284 d300_282 rfl rfl rfl rfl ?_
                  refine wq_l 286 d300_284 rfl rfl rfl rfl ?_
                  refine wq_dv 287 d300_286 rfl rfl (by decide) ?_
                  refine wq_a 288 d300_287 rfl rfl ?_
                  refine wq_a 289 d300_288 rfl rfl ?_
                  refine wq_g 310 d300_289 (by decide) ?_
                  refine wq_s 312 d300_310 rfl rfl (Nat.le_of_ble_eq_true rfl) rfl rfl ?_
                  refine wq_l 314 d300_312 rfl rfl rfl rfl ?_
                  refine wq_cl 317 d300_314 rfl rfl ?_
                  refine wq_a 318 d300_317 rfl rfl ?_
                  refine wq_b 326 321 d300_318 rfl (by decide) rfl (fun c318 => ?_) (fun c318 => ?_)
                  · -- pc 326
                    refine wq_k 327 0 d300_326 (by decide) rfl ?_
                    refine wq_ri d300_327 (rfl) ?_
                    have ed := lg_sb (lg_32 (rl_v l (i + 1))).1 (lg_32 (rl_v l (i + 2))).1
                    rw [(lg_32 (rl_v l (i + 1))).2, (lg_32 (rl_v l (i + 2))).2] at ed
                    have eS : (Int64.ofNat ((1 : Fin 2) : Nat)).toInt = 1 := by decide
                    simp only [lc_eq, lc_le, lc_gt, lc_lt, lc_ge, z0, ed, eS] at c275
                    have eT := rl_timd (s := (Int64.ofNat ((1 : Fin 2) : Nat))) (lg_32 (rl_v l (i + 1))).1 (lg_32 (rl_v l (i + 2))).1 (by rw [eS, (lg_32 (rl_v l (i + 1))).2, (lg_32 (rl_v l (i + 2))).2]; omega)
                    rw [eS, (lg_32 (rl_v l (i + 1))).2, (lg_32 (rl_v l (i + 2))).2] at eT
                    have c318 := c318
                    rw [lc_le] at c318
                    have c318 : ((((rl_v l (i + 2)).toInt64 - (rl_v l (i + 1)).toInt64) / (Int64.ofNat ((1 : Fin 2) : Nat)) + 1).toInt) ≤ (1000000 : Int64).toInt := c318
                    rw [eT, zm] at c318
                    have nlc : ¬ rl_lc l i v2.2.2.1 := fun z => by
                      rcases hlc.mp z with y | y | y
                      · obtain ⟨j, j1, j2, j3⟩ := y
                        rcases (show j = i + 1 ∨ j = i + 2 by omega) with q | q
                        · rw [q, f141] at j3; exact absurd j3 (by decide)
                        · rw [q, f167] at j3; exact absurd j3 (by decide)
                      · rw [if_pos hm] at y; omega
                      · rw [if_pos hm] at y; omega
                    rw [if_neg nlc] at hQ
                    exact rr_q0 hQ h71 rfl
                  · -- pc 321
                    refine wq_k 323 36 d300_321 (by decide) rfl ?_
                    refine wq_g 327 d300_323 (by decide) ?_
                    refine wq_ri d300_327 (rfl) ?_
                    have ed := lg_sb (lg_32 (rl_v l (i + 1))).1 (lg_32 (rl_v l (i + 2))).1
                    rw [(lg_32 (rl_v l (i + 1))).2, (lg_32 (rl_v l (i + 2))).2] at ed
                    have eS : (Int64.ofNat ((1 : Fin 2) : Nat)).toInt = 1 := by decide
                    simp only [lc_eq, lc_le, lc_gt, lc_lt, lc_ge, z0, ed, eS] at c275
                    have eT := rl_timd (s := (Int64.ofNat ((1 : Fin 2) : Nat))) (lg_32 (rl_v l (i + 1))).1 (lg_32 (rl_v l (i + 2))).1 (by rw [eS, (lg_32 (rl_v l (i + 1))).2, (lg_32 (rl_v l (i + 2))).2]; omega)
                    rw [eS, (lg_32 (rl_v l (i + 1))).2, (lg_32 (rl_v l (i + 2))).2] at eT
                    have c318 := c318
                    rw [lc_le] at c318
                    have c318 : ¬ ((((rl_v l (i + 2)).toInt64 - (rl_v l (i + 1)).toInt64) / (Int64.ofNat ((1 : Fin 2) : Nat)) + 1).toInt) ≤ (1000000 : Int64).toInt := c318
                    rw [eT, zm] at c318
                    rw [if_pos (hlc.mpr (Or.inr (Or.inr (by rw [if_pos hm]; omega))))] at hQ
                    exact rr_q1 (k := 36) hQ (rr_Fi h71) rfl (by decide)
                · -- pc 278
                  refine wq_a 279 d300_278 rfl rfl ?_
                  refine wq_g 310 d300_279 (by decide) ?_
                  refine wq_s 312 d300_310 rfl rfl (Nat.le_of_ble_eq_true rfl) rfl rfl ?_
                  refine wq_l 314 d300_312 rfl rfl rfl rfl ?_
                  refine wq_cl 317 d300_314 rfl rfl ?_
                  refine wq_a 318 d300_317 rfl rfl ?_
                  refine wq_b 326 321 d300_318 rfl (by decide) rfl (fun c318 => ?_) (fun c318 => absurd (by decide) c318)
                  refine wq_k 327 0 d300_326 (by decide) rfl ?_
                  refine wq_ri d300_327 (rfl) ?_
                  have ed := lg_sb (lg_32 (rl_v l (i + 1))).1 (lg_32 (rl_v l (i + 2))).1
                  rw [(lg_32 (rl_v l (i + 1))).2, (lg_32 (rl_v l (i + 2))).2] at ed
                  have eS : (Int64.ofNat ((1 : Fin 2) : Nat)).toInt = 1 := by decide
                  simp only [lc_eq, lc_le, lc_gt, lc_lt, lc_ge, z0, ed, eS] at c275
                  have nlc : ¬ rl_lc l i v2.2.2.1 := fun z => by
                    rcases hlc.mp z with y | y | y
                    · obtain ⟨j, j1, j2, j3⟩ := y
                      rcases (show j = i + 1 ∨ j = i + 2 by omega) with q | q
                      · rw [q, f141] at j3; exact absurd j3 (by decide)
                      · rw [q, f167] at j3; exact absurd j3 (by decide)
                    · rw [if_pos hm] at y; omega
                    · rw [if_pos hm] at y; rw [rl_timz (by omega)] at y; exact absurd y (by decide)
                  rw [if_neg nlc] at hQ
                  exact rr_q0 hQ h71 rfl
          · have hc : rl_c l i = [i + 1, i + 2, i + 3, i + 4] := by rw [hc, if_neg (by omega)]
            have n1 := rt_nx T (q := 0) (e := i + 2) i0 i1 (by rw [hc]; rfl) (by rw [hc]; rfl)
            have n2 := rt_nx T (q := 1) (e := i + 3) i0 i2' (by rw [hc]; rfl) (by rw [hc]; rfl)
            refine wq_l 72 d300_71 rfl rfl rfl rfl ?_
            refine wq_gr (ci := 10) (j := 19) (q := 52) 75 d300_72 rfl rfl rfl rfl ?_
            refine wq_l 76 d300_75 rfl rfl rfl rfl ?_
            refine wq_al 77 d300_76 rfl rfl rfl (rt_b T i0) ?_
            rw [ef]
            refine wq_s 79 d300_77 rfl rfl (Nat.le_of_ble_eq_true rfl) rfl rfl ?_
            refine wq_l 80 d300_79 rfl rfl rfl rfl ?_
            refine wq_gr (ci := 10) (j := 21) (q := 54) 83 d300_80 rfl rfl rfl rfl ?_
            refine wq_l 85 d300_83 rfl rfl rfl rfl ?_
            refine wq_al 86 d300_85 rfl rfl rfl (rt_b T i1) ?_
            rw [n1]
            refine wq_s 88 d300_86 rfl rfl (Nat.le_of_ble_eq_true rfl) rfl rfl ?_
            refine wq_l 89 d300_88 rfl rfl rfl rfl ?_
            refine wq_gr (ci := 10) (j := 16) (q := 49) 92 d300_89 rfl rfl rfl rfl ?_
            refine wq_l 93 d300_92 rfl rfl rfl rfl ?_
            refine wq_gr (ci := 10) (j := 21) (q := 54) 96 d300_93 rfl rfl rfl rfl ?_
            refine wq_l 98 d300_96 rfl rfl rfl rfl ?_
            refine wq_al 99 d300_98 rfl rfl rfl (rt_b T i2') ?_
            rw [n2]
            refine wq_al 100 d300_99 rfl rfl rfl (rt_b T i3) ?_
            rw [rt_k T i3]
            refine wq_k 102 11 d300_100 (by decide) rfl ?_
            refine wq_b 109 105 d300_102 rfl (by decide) rfl (fun c102 => ?_) (fun c102 => absurd (fun z => by have := hp_inj (b := 11) (by have := kl (i + 3) (by omega) (by omega); omega) (by decide) z; rcases hkc (i + 3) (by omega) (by omega) with q | q <;> omega) c102)
            refine wq_l 110 d300_109 rfl rfl rfl rfl ?_
            refine wq_gr (ci := 10) (j := 21) (q := 54) 113 d300_110 rfl rfl rfl rfl ?_
            refine wq_l 115 d300_113 rfl rfl rfl rfl ?_
            refine wq_al 116 d300_115 rfl rfl rfl (rt_b T i2') ?_
            rw [n2]
            refine wq_s 118 d300_116 rfl rfl (Nat.le_of_ble_eq_true rfl) rfl rfl ?_
            refine wq_l 119 d300_118 rfl rfl rfl rfl ?_
            refine wq_gr (ci := 10) (j := 16) (q := 49) 122 d300_119 rfl rfl rfl rfl ?_
            refine wq_l 124 d300_122 rfl rfl rfl rfl ?_
            refine wq_al 125 d300_124 rfl rfl rfl (rt_b T i1) ?_
            rw [rt_k T i1]
            refine wq_l 126 d300_125 rfl rfl rfl rfl ?_
            refine wq_gr (ci := 10) (j := 18) (q := 51) 129 d300_126 rfl rfl rfl rfl ?_
            refine wq_l 131 d300_129 rfl rfl rfl rfl ?_
            refine wq_al 132 d300_131 rfl rfl rfl (rt_b T i1) ?_
            rw [rt_v T i1 (nk _ (by omega) (by omega))]
            refine wq_l 133 d300_132 rfl rfl rfl rfl ?_
            refine wq_gr (ci := 10) (j := 44) (q := 71) 136 d300_133 rfl rfl rfl rfl ?_
            refine wq_l 137 d300_136 rfl rfl rfl rfl ?_
            refine wq_al 138 d300_137 rfl rfl rfl (vp_in_iff.mpr (by rw [ei]; omega)) ?_
            rw [ec, s3.2.1, tv]
            refine wq_vs 141 [_, _, _] d300_138 rfl rfl m280 rfl (Nat.le_of_ble_eq_true rfl) rfl (sp280 (kl _ (by omega) (by omega)) ?_)
            refine wq_b 211 144 d300_141 rfl (by decide) rfl (fun c141 => ?_) (fun c141 => ?_)
            · -- pc 211
              have f141 := b2n c141
              refine wq_k 212 1 d300_211 (by decide) rfl ?_
              refine wq_g 216 d300_212 (by decide) ?_
              refine wq_s 218 d300_216 rfl rfl (Nat.le_of_ble_eq_true rfl) rfl rfl ?_
              refine wq_l 220 d300_218 rfl rfl rfl rfl ?_
              refine wq_b 226 223 d300_220 rfl (by decide) rfl (fun c220 => absurd c220 (by decide)) (fun c220 => ?_)
              refine wq_k 225 36 d300_223 (by decide) rfl ?_
              refine wq_ri d300_225 (rfl) ?_
              rw [if_pos (hlc.mpr (Or.inl ⟨i + 1, by omega, by omega, f141⟩))] at hQ
              exact rr_q1 (k := 36) hQ (rr_Fi h71) rfl (by decide)
            · -- pc 144
              have f141 := b2y c141
              refine wq_l 145 d300_144 rfl rfl rfl rfl ?_
              refine wq_gr (ci := 10) (j := 16) (q := 49) 148 d300_145 rfl rfl rfl rfl ?_
              refine wq_l 150 d300_148 rfl rfl rfl rfl ?_
              refine wq_al 151 d300_150 rfl rfl rfl (rt_b T i2') ?_
              rw [rt_k T i2']
              refine wq_l 152 d300_151 rfl rfl rfl rfl ?_
              refine wq_gr (ci := 10) (j := 18) (q := 51) 155 d300_152 rfl rfl rfl rfl ?_
              refine wq_l 157 d300_155 rfl rfl rfl rfl ?_
              refine wq_al 158 d300_157 rfl rfl rfl (rt_b T i2') ?_
              rw [rt_v T i2' (nk _ (by omega) (by omega))]
              refine wq_l 159 d300_158 rfl rfl rfl rfl ?_
              refine wq_gr (ci := 10) (j := 44) (q := 71) 162 d300_159 rfl rfl rfl rfl ?_
              refine wq_l 163 d300_162 rfl rfl rfl rfl ?_
              refine wq_al 164 d300_163 rfl rfl rfl (vp_in_iff.mpr (by rw [ei]; omega)) ?_
              rw [ec, s3.2.1, tv]
              refine wq_vs 167 [_, _, _] d300_164 rfl rfl m280 rfl (Nat.le_of_ble_eq_true rfl) rfl (sp280 (kl _ (by omega) (by omega)) ?_)
              refine wq_b 211 170 d300_167 rfl (by decide) rfl (fun c167 => ?_) (fun c167 => ?_)
              · -- pc 211
                have f167 := b2n c167
                refine wq_k 212 1 d300_211 (by decide) rfl ?_
                refine wq_g 216 d300_212 (by decide) ?_
                refine wq_s 218 d300_216 rfl rfl (Nat.le_of_ble_eq_true rfl) rfl rfl ?_
                refine wq_l 220 d300_218 rfl rfl rfl rfl ?_
                refine wq_b 226 223 d300_220 rfl (by decide) rfl (fun c220 => absurd c220 (by decide)) (fun c220 => ?_)
                refine wq_k 225 36 d300_223 (by decide) rfl ?_
                refine wq_ri d300_225 (rfl) ?_
                rw [if_pos (hlc.mpr (Or.inl ⟨i + 2, by omega, by omega, f167⟩))] at hQ
                exact rr_q1 (k := 36) hQ (rr_Fi h71) rfl (by decide)
              · -- pc 170
                have f167 := b2y c167
                refine wq_l 172 d300_170 rfl rfl rfl rfl ?_
                refine wq_b 215 175 d300_172 rfl (by decide) rfl (fun c172 => absurd c172 (rt_nn T i3)) (fun c172 => ?_)
                refine wq_l 176 d300_175 rfl rfl rfl rfl ?_
                refine wq_gr (ci := 10) (j := 16) (q := 49) 179 d300_176 rfl rfl rfl rfl ?_
                refine wq_l 181 d300_179 rfl rfl rfl rfl ?_
                refine wq_al 182 d300_181 rfl rfl rfl (rt_b T i3) ?_
                rw [rt_k T i3]
                refine wq_l 183 d300_182 rfl rfl rfl rfl ?_
                refine wq_gr (ci := 10) (j := 18) (q := 51) 186 d300_183 rfl rfl rfl rfl ?_
                refine wq_l 188 d300_186 rfl rfl rfl rfl ?_
                refine wq_al 189 d300_188 rfl rfl rfl (rt_b T i3) ?_
                rw [rt_v T i3 (nk _ (by omega) (by omega))]
                refine wq_l 190 d300_189 rfl rfl rfl rfl ?_
                refine wq_gr (ci := 10) (j := 44) (q := 71) 193 d300_190 rfl rfl rfl rfl ?_
                refine wq_l 194 d300_193 rfl rfl rfl rfl ?_
                refine wq_al 195 d300_194 rfl rfl rfl (vp_in_iff.mpr (by rw [ei]; omega)) ?_
                rw [ec, s3.2.1, tv]
                refine wq_vs 198 [_, _, _] d300_195 rfl rfl m280 rfl (Nat.le_of_ble_eq_true rfl) rfl (sp280 (kl _ (by omega) (by omega)) ?_)
                refine wq_b 211 201 d300_198 rfl (by decide) rfl (fun c198 => ?_) (fun c198 => ?_)
                · -- pc 211
                  have f198 := b2n c198
                  refine wq_k 212 1 d300_211 (by decide) rfl ?_
                  refine wq_g 216 d300_212 (by decide) ?_
                  refine wq_s 218 d300_216 rfl rfl (Nat.le_of_ble_eq_true rfl) rfl rfl ?_
                  refine wq_l 220 d300_218 rfl rfl rfl rfl ?_
                  refine wq_b 226 223 d300_220 rfl (by decide) rfl (fun c220 => absurd c220 (by decide)) (fun c220 => ?_)
                  refine wq_k 225 36 d300_223 (by decide) rfl ?_
                  refine wq_ri d300_225 (rfl) ?_
                  rw [if_pos (hlc.mpr (Or.inl ⟨i + 3, by omega, by omega, f198⟩))] at hQ
                  exact rr_q1 (k := 36) hQ (rr_Fi h71) rfl (by decide)
                · -- pc 201
                  have f198 := b2y c198
                  refine wq_l 202 d300_201 rfl rfl rfl rfl ?_
                  refine wq_gr (ci := 10) (j := 18) (q := 51) 205 d300_202 rfl rfl rfl rfl ?_
                  refine wq_l 207 d300_205 rfl rfl rfl rfl ?_
                  refine wq_al 208 d300_207 rfl rfl rfl (rt_b T i3) ?_
                  rw [rt_v T i3 (nk _ (by omega) (by omega))]
                  refine wq_b 215 211 d300_208 rfl (by decide) rfl (fun c208 => ?_) (fun c208 => ?_)
                  · -- pc 215
                    refine wq_k 216 0 d300_215 (by decide) rfl ?_
                    refine wq_s 218 d300_216 rfl rfl (Nat.le_of_ble_eq_true rfl) rfl rfl ?_
                    refine wq_l 220 d300_218 rfl rfl rfl rfl ?_
                    refine wq_b 226 223 d300_220 rfl (by decide) rfl (fun c220 => ?_) (fun c220 => absurd (by decide) c220)
                    refine wq_l 228 d300_226 rfl rfl rfl rfl ?_
                    refine wq_b 235 231 d300_228 rfl (by decide) rfl (fun c228 => ?_) (fun c228 => absurd (Int32.not_lt.mp (rt_nn T i3)) c228)
                    refine wq_l 236 d300_235 rfl rfl rfl rfl ?_
                    refine wq_gr (ci := 10) (j := 18) (q := 51) 239 d300_236 rfl rfl rfl rfl ?_
                    refine wq_l 241 d300_239 rfl rfl rfl rfl ?_
                    refine wq_al 242 d300_241 rfl rfl rfl (rt_b T i3) ?_
                    rw [rt_v T i3 (nk _ (by omega) (by omega))]
                    refine wq_a 243 d300_242 rfl rfl ?_
                    refine wq_s 245 d300_243 rfl rfl (Nat.le_of_ble_eq_true rfl) rfl rfl ?_
                    refine wq_l 246 d300_245 rfl rfl rfl rfl ?_
                    refine wq_gr (ci := 10) (j := 18) (q := 51) 249 d300_246 rfl rfl rfl rfl ?_
                    refine wq_l 251 d300_249 rfl rfl rfl rfl ?_
                    refine wq_al 252 d300_251 rfl rfl rfl (rt_b T i2') ?_
                    rw [rt_v T i2' (nk _ (by omega) (by omega))]
                    refine wq_a 253 d300_252 rfl rfl ?_
                    refine wq_l 254 d300_253 rfl rfl rfl rfl ?_
                    refine wq_gr (ci := 10) (j := 18) (q := 51) 257 d300_254 rfl rfl rfl rfl ?_
                    refine wq_l 259 d300_257 rfl rfl rfl rfl ?_
                    refine wq_al 260 d300_259 rfl rfl rfl (rt_b T i1) ?_
                    rw [rt_v T i1 (nk _ (by omega) (by omega))]
                    refine wq_a 261 d300_260 rfl rfl ?_
                    refine wq_a 262 d300_261 rfl rfl ?_
                    refine wq_s 264 d300_262 rfl rfl (Nat.le_of_ble_eq_true rfl) rfl rfl ?_
                    refine wq_l 266 d300_264 rfl rfl rfl rfl ?_
                    refine wq_a 267 d300_266 rfl rfl ?_
                    refine wq_a 268 d300_267 rfl rfl ?_
                    refine wq_b 292 271 d300_268 rfl (by decide) rfl (fun c268 => ?_) (fun c268 => ?_)
                    · -- pc 292
                      refine wq_l 294 d300_292 rfl rfl rfl rfl ?_
                      refine wq_a 295 d300_294 rfl rfl ?_
                      refine wq_a 296 d300_295 rfl rfl ?_
                      refine wq_b 303 299 d300_296 rfl (by decide) rfl (fun c296 => ?_) (fun c296 => ?_)
                      · -- pc 303
                        refine wq_l 305 d300_303 rfl rfl rfl rfl ?_
                        refine wq_l 307 d300_305 rfl rfl rfl rfl ?_
                        refine wq_dv 308 d300_307 rfl rfl (fun z => c208 (Int32.toInt_inj.mp (by rw [← (lg_32 (rl_v l (i + 3))).2, z]; rfl))) ?_
                        refine wq_a 309 d300_308 rfl rfl ?_
                        refine wq_a 310 d300_309 rfl rfl ?_
                        refine wq_s 312 d300_310 rfl rfl (Nat.le_of_ble_eq_true rfl) rfl rfl ?_
                        refine wq_l 314 d300_312 rfl rfl rfl rfl ?_
                        refine wq_cl 317 d300_314 rfl rfl ?_
                        refine wq_a 318 d300_317 rfl rfl ?_
                        refine wq_b 326 321 d300_318 rfl (by decide) rfl (fun c318 => ?_) (fun c318 => ?_)
                        · -- pc 326
                          refine wq_k 327 0 d300_326 (by decide) rfl ?_
                          refine wq_ri d300_327 (rfl) ?_
                          have ed := lg_sb (lg_32 (rl_v l (i + 1))).1 (lg_32 (rl_v l (i + 2))).1
                          rw [(lg_32 (rl_v l (i + 1))).2, (lg_32 (rl_v l (i + 2))).2] at ed
                          have eS : (rl_v l (i + 3)).toInt64.toInt = (rl_v l (i + 3)).toInt := (lg_32 _).2
                          have s0 : (rl_v l (i + 3)).toInt ≠ 0 := fun z => c208 (Int32.toInt_inj.mp (by rw [z]; rfl))
                          simp only [lc_eq, lc_le, lc_gt, lc_lt, lc_ge, z0, ed, eS] at c268 c296
                          have eT := rl_timd (s := (rl_v l (i + 3)).toInt64) (lg_32 (rl_v l (i + 1))).1 (lg_32 (rl_v l (i + 2))).1 (by rw [eS, (lg_32 (rl_v l (i + 1))).2, (lg_32 (rl_v l (i + 2))).2]; omega)
                          rw [eS, (lg_32 (rl_v l (i + 1))).2, (lg_32 (rl_v l (i + 2))).2] at eT
                          have c318 := c318
                          rw [lc_le] at c318
                          have c318 : ((((rl_v l (i + 2)).toInt64 - (rl_v l (i + 1)).toInt64) / (rl_v l (i + 3)).toInt64 + 1).toInt) ≤ (1000000 : Int64).toInt := c318
                          rw [eT, zm] at c318
                          have nlc : ¬ rl_lc l i v2.2.2.1 := fun z => by
                            rcases hlc.mp z with y | y | y
                            · obtain ⟨j, j1, j2, j3⟩ := y
                              rcases (show j = i + 1 ∨ j = i + 2 ∨ j = i + 3 by omega) with q | q | q
                              · rw [q, f141] at j3; exact absurd j3 (by decide)
                              · rw [q, f167] at j3; exact absurd j3 (by decide)
                              · rw [q, f198] at j3; exact absurd j3 (by decide)
                            · rw [if_neg (by omega)] at y; omega
                            · rw [if_neg (by omega)] at y; omega
                          rw [if_neg nlc] at hQ
                          exact rr_q0 hQ h71 rfl
                        · -- pc 321
                          refine wq_k 323 36 d300_321 (by decide) rfl ?_
                          refine wq_g 327 d300_323 (by decide) ?_
                          refine wq_ri d300_327 (rfl) ?_
                          have ed := lg_sb (lg_32 (rl_v l (i + 1))).1 (lg_32 (rl_v l (i + 2))).1
                          rw [(lg_32 (rl_v l (i + 1))).2, (lg_32 (rl_v l (i + 2))).2] at ed
                          have eS : (rl_v l (i + 3)).toInt64.toInt = (rl_v l (i + 3)).toInt := (lg_32 _).2
                          have s0 : (rl_v l (i + 3)).toInt ≠ 0 := fun z => c208 (Int32.toInt_inj.mp (by rw [z]; rfl))
                          simp only [lc_eq, lc_le, lc_gt, lc_lt, lc_ge, z0, ed, eS] at c268 c296
                          have eT := rl_timd (s := (rl_v l (i + 3)).toInt64) (lg_32 (rl_v l (i + 1))).1 (lg_32 (rl_v l (i + 2))).1 (by rw [eS, (lg_32 (rl_v l (i + 1))).2, (lg_32 (rl_v l (i + 2))).2]; omega)
                          rw [eS, (lg_32 (rl_v l (i + 1))).2, (lg_32 (rl_v l (i + 2))).2] at eT
                          have c318 := c318
                          rw [lc_le] at c318
                          have c318 : ¬ ((((rl_v l (i + 2)).toInt64 - (rl_v l (i + 1)).toInt64) / (rl_v l (i + 3)).toInt64 + 1).toInt) ≤ (1000000 : Int64).toInt := c318
                          rw [eT, zm] at c318
                          rw [if_pos (hlc.mpr (Or.inr (Or.inr (by rw [if_neg (by omega)]; omega))))] at hQ
                          exact rr_q1 (k := 36) hQ (rr_Fi h71) rfl (by decide)
                      · -- pc 299
                        refine wq_a 300 d300_299 rfl rfl ?_
                        refine wq_g 310 d300_300 (by decide) ?_
                        refine wq_s 312 d300_310 rfl rfl (Nat.le_of_ble_eq_true rfl) rfl rfl ?_
                        refine wq_l 314 d300_312 rfl rfl rfl rfl ?_
                        refine wq_cl 317 d300_314 rfl rfl ?_
                        refine wq_a 318 d300_317 rfl rfl ?_
                        refine wq_b 326 321 d300_318 rfl (by decide) rfl (fun c318 => ?_) (fun c318 => absurd (by decide) c318)
                        refine wq_k 327 0 d300_326 (by decide) rfl ?_
                        refine wq_ri d300_327 (rfl) ?_
                        have ed := lg_sb (lg_32 (rl_v l (i + 1))).1 (lg_32 (rl_v l (i + 2))).1
                        rw [(lg_32 (rl_v l (i + 1))).2, (lg_32 (rl_v l (i + 2))).2] at ed
                        have eS : (rl_v l (i + 3)).toInt64.toInt = (rl_v l (i + 3)).toInt := (lg_32 _).2
                        have s0 : (rl_v l (i + 3)).toInt ≠ 0 := fun z => c208 (Int32.toInt_inj.mp (by rw [z]; rfl))
                        simp only [lc_eq, lc_le, lc_gt, lc_lt, lc_ge, z0, ed, eS] at c268 c296
                        have nlc : ¬ rl_lc l i v2.2.2.1 := fun z => by
                          rcases hlc.mp z with y | y | y
                          · obtain ⟨j, j1, j2, j3⟩ := y
                            rcases (show j = i + 1 ∨ j = i + 2 ∨ j = i + 3 by omega) with q | q | q
                            · rw [q, f141] at j3; exact absurd j3 (by decide)
                            · rw [q, f167] at j3; exact absurd j3 (by decide)
                            · rw [q, f198] at j3; exact absurd j3 (by decide)
                          · rw [if_neg (by omega)] at y; omega
                          · rw [if_neg (by omega)] at y; rw [rl_timz (by omega)] at y; exact absurd y (by decide)
                        rw [if_neg nlc] at hQ
                        exact rr_q0 hQ h71 rfl
                    · -- pc 271
                      refine wq_l 273 d300_271 rfl rfl rfl rfl ?_
                      refine wq_a 274 d300_273 rfl rfl ?_
                      refine wq_a 275 d300_274 rfl rfl ?_
                      refine wq_b 282 278 d300_275 rfl (by decide) rfl (fun c275 => ?_) (fun c275 => ?_)
                      · -- pc 282
                        refine wq_l 284 d300_282 rfl rfl rfl rfl ?_
                        refine wq_l 286 d300_284 rfl rfl rfl rfl ?_
                        refine wq_dv 287 d300_286 rfl rfl (fun z => c208 (Int32.toInt_inj.mp (by rw [← (lg_32 (rl_v l (i + 3))).2, z]; rfl))) ?_
                        refine wq_a 288 d300_287 rfl rfl ?_
                        refine wq_a 289 d300_288 rfl rfl ?_
                        refine wq_g 310 d300_289 (by decide) ?_
                        refine wq_s 312 d300_310 rfl rfl (Nat.le_of_ble_eq_true rfl) rfl rfl ?_
                        refine wq_l 314 d300_312 rfl rfl rfl rfl ?_
                        refine wq_cl 317 d300_314 rfl rfl ?_
                        refine wq_a 318 d300_317 rfl rfl ?_
                        refine wq_b 326 321 d300_318 rfl (by decide) rfl (fun c318 => ?_) (fun c318 => ?_)
                        · -- pc 326
                          refine wq_k 327 0 d300_326 (by decide) rfl ?_
                          refine wq_ri d300_327 (rfl) ?_
                          have ed := lg_sb (lg_32 (rl_v l (i + 1))).1 (lg_32 (rl_v l (i + 2))).1
                          rw [(lg_32 (rl_v l (i + 1))).2, (lg_32 (rl_v l (i + 2))).2] at ed
                          have eS : (rl_v l (i + 3)).toInt64.toInt = (rl_v l (i + 3)).toInt := (lg_32 _).2
                          have s0 : (rl_v l (i + 3)).toInt ≠ 0 := fun z => c208 (Int32.toInt_inj.mp (by rw [z]; rfl))
                          simp only [lc_eq, lc_le, lc_gt, lc_lt, lc_ge, z0, ed, eS] at c268 c275
                          have eT := rl_timd (s := (rl_v l (i + 3)).toInt64) (lg_32 (rl_v l (i + 1))).1 (lg_32 (rl_v l (i + 2))).1 (by rw [eS, (lg_32 (rl_v l (i + 1))).2, (lg_32 (rl_v l (i + 2))).2]; omega)
                          rw [eS, (lg_32 (rl_v l (i + 1))).2, (lg_32 (rl_v l (i + 2))).2] at eT
                          have c318 := c318
                          rw [lc_le] at c318
                          have c318 : ((((rl_v l (i + 2)).toInt64 - (rl_v l (i + 1)).toInt64) / (rl_v l (i + 3)).toInt64 + 1).toInt) ≤ (1000000 : Int64).toInt := c318
                          rw [eT, zm] at c318
                          have nlc : ¬ rl_lc l i v2.2.2.1 := fun z => by
                            rcases hlc.mp z with y | y | y
                            · obtain ⟨j, j1, j2, j3⟩ := y
                              rcases (show j = i + 1 ∨ j = i + 2 ∨ j = i + 3 by omega) with q | q | q
                              · rw [q, f141] at j3; exact absurd j3 (by decide)
                              · rw [q, f167] at j3; exact absurd j3 (by decide)
                              · rw [q, f198] at j3; exact absurd j3 (by decide)
                            · rw [if_neg (by omega)] at y; omega
                            · rw [if_neg (by omega)] at y; omega
                          rw [if_neg nlc] at hQ
                          exact rr_q0 hQ h71 rfl
                        · -- pc 321
                          refine wq_k 323 36 d300_321 (by decide) rfl ?_
                          refine wq_g 327 d300_323 (by decide) ?_
                          refine wq_ri d300_327 (rfl) ?_
                          have ed := lg_sb (lg_32 (rl_v l (i + 1))).1 (lg_32 (rl_v l (i + 2))).1
                          rw [(lg_32 (rl_v l (i + 1))).2, (lg_32 (rl_v l (i + 2))).2] at ed
                          have eS : (rl_v l (i + 3)).toInt64.toInt = (rl_v l (i + 3)).toInt := (lg_32 _).2
                          have s0 : (rl_v l (i + 3)).toInt ≠ 0 := fun z => c208 (Int32.toInt_inj.mp (by rw [z]; rfl))
                          simp only [lc_eq, lc_le, lc_gt, lc_lt, lc_ge, z0, ed, eS] at c268 c275
                          have eT := rl_timd (s := (rl_v l (i + 3)).toInt64) (lg_32 (rl_v l (i + 1))).1 (lg_32 (rl_v l (i + 2))).1 (by rw [eS, (lg_32 (rl_v l (i + 1))).2, (lg_32 (rl_v l (i + 2))).2]; omega)
                          rw [eS, (lg_32 (rl_v l (i + 1))).2, (lg_32 (rl_v l (i + 2))).2] at eT
                          have c318 := c318
                          rw [lc_le] at c318
                          have c318 : ¬ ((((rl_v l (i + 2)).toInt64 - (rl_v l (i + 1)).toInt64) / (rl_v l (i + 3)).toInt64 + 1).toInt) ≤ (1000000 : Int64).toInt := c318
                          rw [eT, zm] at c318
                          rw [if_pos (hlc.mpr (Or.inr (Or.inr (by rw [if_neg (by omega)]; omega))))] at hQ
                          exact rr_q1 (k := 36) hQ (rr_Fi h71) rfl (by decide)
                      · -- pc 278
                        refine wq_a 279 d300_278 rfl rfl ?_
                        refine wq_g 310 d300_279 (by decide) ?_
                        refine wq_s 312 d300_310 rfl rfl (Nat.le_of_ble_eq_true rfl) rfl rfl ?_
                        refine wq_l 314 d300_312 rfl rfl rfl rfl ?_
                        refine wq_cl 317 d300_314 rfl rfl ?_
                        refine wq_a 318 d300_317 rfl rfl ?_
                        refine wq_b 326 321 d300_318 rfl (by decide) rfl (fun c318 => ?_) (fun c318 => absurd (by decide) c318)
                        refine wq_k 327 0 d300_326 (by decide) rfl ?_
                        refine wq_ri d300_327 (rfl) ?_
                        have ed := lg_sb (lg_32 (rl_v l (i + 1))).1 (lg_32 (rl_v l (i + 2))).1
                        rw [(lg_32 (rl_v l (i + 1))).2, (lg_32 (rl_v l (i + 2))).2] at ed
                        have eS : (rl_v l (i + 3)).toInt64.toInt = (rl_v l (i + 3)).toInt := (lg_32 _).2
                        have s0 : (rl_v l (i + 3)).toInt ≠ 0 := fun z => c208 (Int32.toInt_inj.mp (by rw [z]; rfl))
                        simp only [lc_eq, lc_le, lc_gt, lc_lt, lc_ge, z0, ed, eS] at c268 c275
                        have nlc : ¬ rl_lc l i v2.2.2.1 := fun z => by
                          rcases hlc.mp z with y | y | y
                          · obtain ⟨j, j1, j2, j3⟩ := y
                            rcases (show j = i + 1 ∨ j = i + 2 ∨ j = i + 3 by omega) with q | q | q
                            · rw [q, f141] at j3; exact absurd j3 (by decide)
                            · rw [q, f167] at j3; exact absurd j3 (by decide)
                            · rw [q, f198] at j3; exact absurd j3 (by decide)
                          · rw [if_neg (by omega)] at y; omega
                          · rw [if_neg (by omega)] at y; rw [rl_timz (by omega)] at y; exact absurd y (by decide)
                        rw [if_neg nlc] at hQ
                        exact rr_q0 hQ h71 rfl
                  · -- pc 211
                    refine wq_k 212 1 d300_211 (by decide) rfl ?_
                    refine wq_g 216 d300_212 (by decide) ?_
                    refine wq_s 218 d300_216 rfl rfl (Nat.le_of_ble_eq_true rfl) rfl rfl ?_
                    refine wq_l 220 d300_218 rfl rfl rfl rfl ?_
                    refine wq_b 226 223 d300_220 rfl (by decide) rfl (fun c220 => absurd c220 (by decide)) (fun c220 => ?_)
                    refine wq_k 225 36 d300_223 (by decide) rfl ?_
                    refine wq_ri d300_225 (rfl) ?_
                    rw [if_pos (hlc.mpr (Or.inr (Or.inl (by rw [if_neg (by omega), Classical.not_not.mp c208]; decide))))] at hQ
                    exact rr_q1 (k := 36) hQ (rr_Fi h71) rfl (by decide)
        · -- pc 57
          refine wq_l 58 d300_57 rfl rfl rfl rfl ?_
          refine wq_ri d300_58 (rfl) ?_
          rw [if_neg c35, if_pos (show rl_asg l A i (rl_v l i) ≠ 0 by rw [i_le, ea] at c54; have c54 : ¬ _ ≤ (0 : Int) := c54; omega)] at hQ
          exact rr_q1 hQ (rr_Fi h) rfl (by rw [i_le, ea] at c54; have c54 : ¬ _ ≤ (0 : Int) := c54; omega)
      · -- pc 38
        refine wq_k 40 22 d300_38 (by decide) rfl ?_
        refine wq_ri d300_40 (rfl) ?_
        rw [if_pos (Classical.not_not.mp c35)] at hQ
        exact rr_q1 (k := 22) hQ (rr_Fi h) rfl (by decide)
  · rw [if_pos e0] at hQ
    refine wq_m m300 (Nat.le_of_ble_eq_true rfl) (by decide) rfl ?_
    refine wq_l 1 d300_0 rfl rfl rfl rfl ?_
    refine wq_l 2 d300_1 rfl rfl rfl rfl ?_
    refine wq_gr (ci := 10) (j := 18) (q := 51) 5 d300_2 rfl rfl rfl rfl ?_
    refine wq_l 6 d300_5 rfl rfl rfl rfl ?_
    refine wq_al 7 d300_6 rfl rfl rfl (bi) ?_
    rw [em]
    refine wq_k 8 0 d300_7 (by decide) rfl ?_
    refine wq_v 11 [_, _] d300_8 rfl rfl m292 rfl rfl (Nat.le_of_ble_eq_true rfl) rfl (re292 h hp hB hs (s := 0) (by decide) hR ?_)
    refine wq_s 12 d300_11 rfl rfl (Nat.le_of_ble_eq_true rfl) rfl rfl ?_
    refine wq_l 13 d300_12 rfl rfl rfl rfl ?_
    refine wq_b 18 16 d300_13 rfl (by decide) rfl (fun c13 => absurd c13 (by rw [i_le, es]; show ¬ _ ≤ (0 : Int); omega)) (fun c13 => ?_)
    refine wq_l 17 d300_16 rfl rfl rfl rfl ?_
    refine wq_ri d300_17 (rfl) ?_
    exact rr_q1 hQ (rr_Fi h) rfl e0
