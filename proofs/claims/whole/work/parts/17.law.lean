theorem m5 : pm_m 5 = some (⟨"TypeRules", "judge", "()I"⟩, prog_1_method_5_code, 1, (some FieldType.int), 0, 0, 1) := rfl
theorem m200 : pm_m 200 = some (⟨"TypeRulesModel", "judge", "()I"⟩, prog_14_method_120_code, 2, (some FieldType.int), 10, 0, 11) := rfl
theorem dl_0 : decode code 0 = .ok (.new 7, 3) := by decide +kernel
theorem dl_3 : decode code 3 = .ok (.dup, 1) := by decide +kernel
theorem dl_4 : decode code 4 = .ok (.invokespecial 9, 3) := by decide +kernel
theorem dl_7 : decode code 7 = .ok (.astore_n 1, 1) := by decide +kernel
theorem dl_8 : decode code 8 = .ok (.new 10, 3) := by decide +kernel
theorem dl_11 : decode code 11 = .ok (.dup, 1) := by decide +kernel
theorem dl_12 : decode code 12 = .ok (.invokespecial 12, 3) := by decide +kernel
theorem dl_15 : decode code 15 = .ok (.astore_n 2, 1) := by decide +kernel
theorem dl_16 : decode code 16 = .ok (.iconst 0, 1) := by decide +kernel
theorem dl_17 : decode code 17 = .ok (.istore_n 3, 1) := by decide +kernel
theorem dl_18 : decode code 18 = .ok (.iload_n 3, 1) := by decide +kernel
theorem dl_19 : decode code 19 = .ok (.aload_n 0, 1) := by decide +kernel
theorem dl_20 : decode code 20 = .ok (.arraylength, 1) := by decide +kernel
theorem dl_21 : decode code 21 = .ok (.bipush 6, 2) := by decide +kernel
theorem dl_23 : decode code 23 = .ok (.isub, 1) := by decide +kernel
theorem dl_24 : decode code 24 = .ok (.if_icmp .gt 347, 3) := by decide +kernel
theorem dl_27 : decode code 27 = .ok (.aload_n 0, 1) := by decide +kernel
theorem dl_28 : decode code 28 = .ok (.iload_n 3, 1) := by decide +kernel
theorem dl_29 : decode code 29 = .ok (.iaload, 1) := by decide +kernel
theorem dl_30 : decode code 30 = .ok (.bipush 15, 2) := by decide +kernel
theorem dl_32 : decode code 32 = .ok (.iand, 1) := by decide +kernel
theorem dl_33 : decode code 33 = .ok (.tableswitch 332 0 10 #[59, 72, 135, 158, 171, 194, 217, 240, 263, 286, 309], 59) := by decide +kernel
theorem dl_92 : decode code 92 = .ok (.aload_n 1, 1) := by decide +kernel
theorem dl_93 : decode code 93 = .ok (.invokevirtual 13, 3) := by decide +kernel
theorem dl_96 : decode code 96 = .ok (.aload_n 2, 1) := by decide +kernel
theorem dl_97 : decode code 97 = .ok (.invokevirtual 17, 3) := by decide +kernel
theorem dl_100 : decode code 100 = .ok (.if_icmp .eq 265, 3) := by decide +kernel
theorem dl_103 : decode code 103 = .ok (.iconst 0, 1) := by decide +kernel
theorem dl_104 : decode code 104 = .ok (.ireturn, 1) := by decide +kernel
theorem dl_105 : decode code 105 = .ok (.aload_n 1, 1) := by decide +kernel
theorem dl_106 : decode code 106 = .ok (.aload_n 0, 1) := by decide +kernel
theorem dl_107 : decode code 107 = .ok (.iload_n 3, 1) := by decide +kernel
theorem dl_108 : decode code 108 = .ok (.iconst 1, 1) := by decide +kernel
theorem dl_109 : decode code 109 = .ok (.iadd, 1) := by decide +kernel
theorem dl_110 : decode code 110 = .ok (.iaload, 1) := by decide +kernel
theorem dl_111 : decode code 111 = .ok (.aload_n 0, 1) := by decide +kernel
theorem dl_112 : decode code 112 = .ok (.iload_n 3, 1) := by decide +kernel
theorem dl_113 : decode code 113 = .ok (.iconst 2, 1) := by decide +kernel
theorem dl_114 : decode code 114 = .ok (.iadd, 1) := by decide +kernel
theorem dl_115 : decode code 115 = .ok (.iaload, 1) := by decide +kernel
theorem dl_116 : decode code 116 = .ok (.aload_n 0, 1) := by decide +kernel
theorem dl_117 : decode code 117 = .ok (.iload_n 3, 1) := by decide +kernel
theorem dl_118 : decode code 118 = .ok (.iconst 3, 1) := by decide +kernel
theorem dl_119 : decode code 119 = .ok (.iadd, 1) := by decide +kernel
theorem dl_120 : decode code 120 = .ok (.iaload, 1) := by decide +kernel
theorem dl_121 : decode code 121 = .ok (.aload_n 0, 1) := by decide +kernel
theorem dl_122 : decode code 122 = .ok (.iload_n 3, 1) := by decide +kernel
theorem dl_123 : decode code 123 = .ok (.iconst 4, 1) := by decide +kernel
theorem dl_124 : decode code 124 = .ok (.iadd, 1) := by decide +kernel
theorem dl_125 : decode code 125 = .ok (.iaload, 1) := by decide +kernel
theorem dl_126 : decode code 126 = .ok (.aload_n 0, 1) := by decide +kernel
theorem dl_127 : decode code 127 = .ok (.iload_n 3, 1) := by decide +kernel
theorem dl_128 : decode code 128 = .ok (.iconst 5, 1) := by decide +kernel
theorem dl_129 : decode code 129 = .ok (.iadd, 1) := by decide +kernel
theorem dl_130 : decode code 130 = .ok (.iaload, 1) := by decide +kernel
theorem dl_131 : decode code 131 = .ok (.invokevirtual 18, 3) := by decide +kernel
theorem dl_134 : decode code 134 = .ok (.aload_n 2, 1) := by decide +kernel
theorem dl_135 : decode code 135 = .ok (.aload_n 0, 1) := by decide +kernel
theorem dl_136 : decode code 136 = .ok (.iload_n 3, 1) := by decide +kernel
theorem dl_137 : decode code 137 = .ok (.iconst 1, 1) := by decide +kernel
theorem dl_138 : decode code 138 = .ok (.iadd, 1) := by decide +kernel
theorem dl_139 : decode code 139 = .ok (.iaload, 1) := by decide +kernel
theorem dl_140 : decode code 140 = .ok (.aload_n 0, 1) := by decide +kernel
theorem dl_141 : decode code 141 = .ok (.iload_n 3, 1) := by decide +kernel
theorem dl_142 : decode code 142 = .ok (.iconst 2, 1) := by decide +kernel
theorem dl_143 : decode code 143 = .ok (.iadd, 1) := by decide +kernel
theorem dl_144 : decode code 144 = .ok (.iaload, 1) := by decide +kernel
theorem dl_145 : decode code 145 = .ok (.aload_n 0, 1) := by decide +kernel
theorem dl_146 : decode code 146 = .ok (.iload_n 3, 1) := by decide +kernel
theorem dl_147 : decode code 147 = .ok (.iconst 3, 1) := by decide +kernel
theorem dl_148 : decode code 148 = .ok (.iadd, 1) := by decide +kernel
theorem dl_149 : decode code 149 = .ok (.iaload, 1) := by decide +kernel
theorem dl_150 : decode code 150 = .ok (.aload_n 0, 1) := by decide +kernel
theorem dl_151 : decode code 151 = .ok (.iload_n 3, 1) := by decide +kernel
theorem dl_152 : decode code 152 = .ok (.iconst 4, 1) := by decide +kernel
theorem dl_153 : decode code 153 = .ok (.iadd, 1) := by decide +kernel
theorem dl_154 : decode code 154 = .ok (.iaload, 1) := by decide +kernel
theorem dl_155 : decode code 155 = .ok (.aload_n 0, 1) := by decide +kernel
theorem dl_156 : decode code 156 = .ok (.iload_n 3, 1) := by decide +kernel
theorem dl_157 : decode code 157 = .ok (.iconst 5, 1) := by decide +kernel
theorem dl_158 : decode code 158 = .ok (.iadd, 1) := by decide +kernel
theorem dl_159 : decode code 159 = .ok (.iaload, 1) := by decide +kernel
theorem dl_160 : decode code 160 = .ok (.invokevirtual 22, 3) := by decide +kernel
theorem dl_163 : decode code 163 = .ok (.if_icmp .eq 202, 3) := by decide +kernel
theorem dl_166 : decode code 166 = .ok (.iconst 0, 1) := by decide +kernel
theorem dl_167 : decode code 167 = .ok (.ireturn, 1) := by decide +kernel
theorem dl_168 : decode code 168 = .ok (.aload_n 1, 1) := by decide +kernel
theorem dl_169 : decode code 169 = .ok (.aload_n 0, 1) := by decide +kernel
theorem dl_170 : decode code 170 = .ok (.iload_n 3, 1) := by decide +kernel
theorem dl_171 : decode code 171 = .ok (.iconst 1, 1) := by decide +kernel
theorem dl_172 : decode code 172 = .ok (.iadd, 1) := by decide +kernel
theorem dl_173 : decode code 173 = .ok (.iaload, 1) := by decide +kernel
theorem dl_174 : decode code 174 = .ok (.invokevirtual 23, 3) := by decide +kernel
theorem dl_177 : decode code 177 = .ok (.aload_n 2, 1) := by decide +kernel
theorem dl_178 : decode code 178 = .ok (.aload_n 0, 1) := by decide +kernel
theorem dl_179 : decode code 179 = .ok (.iload_n 3, 1) := by decide +kernel
theorem dl_180 : decode code 180 = .ok (.iconst 1, 1) := by decide +kernel
theorem dl_181 : decode code 181 = .ok (.iadd, 1) := by decide +kernel
theorem dl_182 : decode code 182 = .ok (.iaload, 1) := by decide +kernel
theorem dl_183 : decode code 183 = .ok (.invokevirtual 27, 3) := by decide +kernel
theorem dl_186 : decode code 186 = .ok (.if_icmp .eq 179, 3) := by decide +kernel
theorem dl_189 : decode code 189 = .ok (.iconst 0, 1) := by decide +kernel
theorem dl_190 : decode code 190 = .ok (.ireturn, 1) := by decide +kernel
theorem dl_191 : decode code 191 = .ok (.aload_n 1, 1) := by decide +kernel
theorem dl_192 : decode code 192 = .ok (.invokevirtual 28, 3) := by decide +kernel
theorem dl_195 : decode code 195 = .ok (.aload_n 2, 1) := by decide +kernel
theorem dl_196 : decode code 196 = .ok (.invokevirtual 31, 3) := by decide +kernel
theorem dl_199 : decode code 199 = .ok (.if_icmp .eq 166, 3) := by decide +kernel
theorem dl_202 : decode code 202 = .ok (.iconst 0, 1) := by decide +kernel
theorem dl_203 : decode code 203 = .ok (.ireturn, 1) := by decide +kernel
theorem dl_204 : decode code 204 = .ok (.aload_n 1, 1) := by decide +kernel
theorem dl_205 : decode code 205 = .ok (.aload_n 0, 1) := by decide +kernel
theorem dl_206 : decode code 206 = .ok (.iload_n 3, 1) := by decide +kernel
theorem dl_207 : decode code 207 = .ok (.iconst 1, 1) := by decide +kernel
theorem dl_208 : decode code 208 = .ok (.iadd, 1) := by decide +kernel
theorem dl_209 : decode code 209 = .ok (.iaload, 1) := by decide +kernel
theorem dl_210 : decode code 210 = .ok (.invokevirtual 32, 3) := by decide +kernel
theorem dl_213 : decode code 213 = .ok (.aload_n 2, 1) := by decide +kernel
theorem dl_214 : decode code 214 = .ok (.aload_n 0, 1) := by decide +kernel
theorem dl_215 : decode code 215 = .ok (.iload_n 3, 1) := by decide +kernel
theorem dl_216 : decode code 216 = .ok (.iconst 1, 1) := by decide +kernel
theorem dl_217 : decode code 217 = .ok (.iadd, 1) := by decide +kernel
theorem dl_218 : decode code 218 = .ok (.iaload, 1) := by decide +kernel
theorem dl_219 : decode code 219 = .ok (.invokevirtual 35, 3) := by decide +kernel
theorem dl_222 : decode code 222 = .ok (.if_icmp .eq 143, 3) := by decide +kernel
theorem dl_225 : decode code 225 = .ok (.iconst 0, 1) := by decide +kernel
theorem dl_226 : decode code 226 = .ok (.ireturn, 1) := by decide +kernel
theorem dl_227 : decode code 227 = .ok (.aload_n 1, 1) := by decide +kernel
theorem dl_228 : decode code 228 = .ok (.aload_n 0, 1) := by decide +kernel
theorem dl_229 : decode code 229 = .ok (.iload_n 3, 1) := by decide +kernel
theorem dl_230 : decode code 230 = .ok (.iconst 1, 1) := by decide +kernel
theorem dl_231 : decode code 231 = .ok (.iadd, 1) := by decide +kernel
theorem dl_232 : decode code 232 = .ok (.iaload, 1) := by decide +kernel
theorem dl_233 : decode code 233 = .ok (.invokevirtual 36, 3) := by decide +kernel
theorem dl_236 : decode code 236 = .ok (.aload_n 2, 1) := by decide +kernel
theorem dl_237 : decode code 237 = .ok (.aload_n 0, 1) := by decide +kernel
theorem dl_238 : decode code 238 = .ok (.iload_n 3, 1) := by decide +kernel
theorem dl_239 : decode code 239 = .ok (.iconst 1, 1) := by decide +kernel
theorem dl_240 : decode code 240 = .ok (.iadd, 1) := by decide +kernel
theorem dl_241 : decode code 241 = .ok (.iaload, 1) := by decide +kernel
theorem dl_242 : decode code 242 = .ok (.invokevirtual 39, 3) := by decide +kernel
theorem dl_245 : decode code 245 = .ok (.if_icmp .eq 120, 3) := by decide +kernel
theorem dl_248 : decode code 248 = .ok (.iconst 0, 1) := by decide +kernel
theorem dl_249 : decode code 249 = .ok (.ireturn, 1) := by decide +kernel
theorem dl_250 : decode code 250 = .ok (.aload_n 1, 1) := by decide +kernel
theorem dl_251 : decode code 251 = .ok (.aload_n 0, 1) := by decide +kernel
theorem dl_252 : decode code 252 = .ok (.iload_n 3, 1) := by decide +kernel
theorem dl_253 : decode code 253 = .ok (.iconst 1, 1) := by decide +kernel
theorem dl_254 : decode code 254 = .ok (.iadd, 1) := by decide +kernel
theorem dl_255 : decode code 255 = .ok (.iaload, 1) := by decide +kernel
theorem dl_256 : decode code 256 = .ok (.invokevirtual 40, 3) := by decide +kernel
theorem dl_259 : decode code 259 = .ok (.aload_n 2, 1) := by decide +kernel
theorem dl_260 : decode code 260 = .ok (.aload_n 0, 1) := by decide +kernel
theorem dl_261 : decode code 261 = .ok (.iload_n 3, 1) := by decide +kernel
theorem dl_262 : decode code 262 = .ok (.iconst 1, 1) := by decide +kernel
theorem dl_263 : decode code 263 = .ok (.iadd, 1) := by decide +kernel
theorem dl_264 : decode code 264 = .ok (.iaload, 1) := by decide +kernel
theorem dl_265 : decode code 265 = .ok (.invokevirtual 43, 3) := by decide +kernel
theorem dl_268 : decode code 268 = .ok (.if_icmp .eq 97, 3) := by decide +kernel
theorem dl_271 : decode code 271 = .ok (.iconst 0, 1) := by decide +kernel
theorem dl_272 : decode code 272 = .ok (.ireturn, 1) := by decide +kernel
theorem dl_273 : decode code 273 = .ok (.aload_n 1, 1) := by decide +kernel
theorem dl_274 : decode code 274 = .ok (.aload_n 0, 1) := by decide +kernel
theorem dl_275 : decode code 275 = .ok (.iload_n 3, 1) := by decide +kernel
theorem dl_276 : decode code 276 = .ok (.iconst 1, 1) := by decide +kernel
theorem dl_277 : decode code 277 = .ok (.iadd, 1) := by decide +kernel
theorem dl_278 : decode code 278 = .ok (.iaload, 1) := by decide +kernel
theorem dl_279 : decode code 279 = .ok (.invokevirtual 44, 3) := by decide +kernel
theorem dl_282 : decode code 282 = .ok (.aload_n 2, 1) := by decide +kernel
theorem dl_283 : decode code 283 = .ok (.aload_n 0, 1) := by decide +kernel
theorem dl_284 : decode code 284 = .ok (.iload_n 3, 1) := by decide +kernel
theorem dl_285 : decode code 285 = .ok (.iconst 1, 1) := by decide +kernel
theorem dl_286 : decode code 286 = .ok (.iadd, 1) := by decide +kernel
theorem dl_287 : decode code 287 = .ok (.iaload, 1) := by decide +kernel
theorem dl_288 : decode code 288 = .ok (.invokevirtual 47, 3) := by decide +kernel
theorem dl_291 : decode code 291 = .ok (.if_icmp .eq 74, 3) := by decide +kernel
theorem dl_294 : decode code 294 = .ok (.iconst 0, 1) := by decide +kernel
theorem dl_295 : decode code 295 = .ok (.ireturn, 1) := by decide +kernel
theorem dl_296 : decode code 296 = .ok (.aload_n 1, 1) := by decide +kernel
theorem dl_297 : decode code 297 = .ok (.aload_n 0, 1) := by decide +kernel
theorem dl_298 : decode code 298 = .ok (.iload_n 3, 1) := by decide +kernel
theorem dl_299 : decode code 299 = .ok (.iconst 1, 1) := by decide +kernel
theorem dl_300 : decode code 300 = .ok (.iadd, 1) := by decide +kernel
theorem dl_301 : decode code 301 = .ok (.iaload, 1) := by decide +kernel
theorem dl_302 : decode code 302 = .ok (.invokevirtual 48, 3) := by decide +kernel
theorem dl_305 : decode code 305 = .ok (.aload_n 2, 1) := by decide +kernel
theorem dl_306 : decode code 306 = .ok (.aload_n 0, 1) := by decide +kernel
theorem dl_307 : decode code 307 = .ok (.iload_n 3, 1) := by decide +kernel
theorem dl_308 : decode code 308 = .ok (.iconst 1, 1) := by decide +kernel
theorem dl_309 : decode code 309 = .ok (.iadd, 1) := by decide +kernel
theorem dl_310 : decode code 310 = .ok (.iaload, 1) := by decide +kernel
theorem dl_311 : decode code 311 = .ok (.invokevirtual 51, 3) := by decide +kernel
theorem dl_314 : decode code 314 = .ok (.if_icmp .eq 51, 3) := by decide +kernel
theorem dl_317 : decode code 317 = .ok (.iconst 0, 1) := by decide +kernel
theorem dl_318 : decode code 318 = .ok (.ireturn, 1) := by decide +kernel
theorem dl_319 : decode code 319 = .ok (.aload_n 1, 1) := by decide +kernel
theorem dl_320 : decode code 320 = .ok (.aload_n 0, 1) := by decide +kernel
theorem dl_321 : decode code 321 = .ok (.iload_n 3, 1) := by decide +kernel
theorem dl_322 : decode code 322 = .ok (.iconst 1, 1) := by decide +kernel
theorem dl_323 : decode code 323 = .ok (.iadd, 1) := by decide +kernel
theorem dl_324 : decode code 324 = .ok (.iaload, 1) := by decide +kernel
theorem dl_325 : decode code 325 = .ok (.invokevirtual 52, 3) := by decide +kernel
theorem dl_328 : decode code 328 = .ok (.aload_n 2, 1) := by decide +kernel
theorem dl_329 : decode code 329 = .ok (.aload_n 0, 1) := by decide +kernel
theorem dl_330 : decode code 330 = .ok (.iload_n 3, 1) := by decide +kernel
theorem dl_331 : decode code 331 = .ok (.iconst 1, 1) := by decide +kernel
theorem dl_332 : decode code 332 = .ok (.iadd, 1) := by decide +kernel
theorem dl_333 : decode code 333 = .ok (.iaload, 1) := by decide +kernel
theorem dl_334 : decode code 334 = .ok (.invokevirtual 55, 3) := by decide +kernel
theorem dl_337 : decode code 337 = .ok (.if_icmp .eq 28, 3) := by decide +kernel
theorem dl_340 : decode code 340 = .ok (.iconst 0, 1) := by decide +kernel
theorem dl_341 : decode code 341 = .ok (.ireturn, 1) := by decide +kernel
theorem dl_342 : decode code 342 = .ok (.aload_n 1, 1) := by decide +kernel
theorem dl_343 : decode code 343 = .ok (.aload_n 0, 1) := by decide +kernel
theorem dl_344 : decode code 344 = .ok (.iload_n 3, 1) := by decide +kernel
theorem dl_345 : decode code 345 = .ok (.iconst 1, 1) := by decide +kernel
theorem dl_346 : decode code 346 = .ok (.iadd, 1) := by decide +kernel
theorem dl_347 : decode code 347 = .ok (.iaload, 1) := by decide +kernel
theorem dl_348 : decode code 348 = .ok (.invokevirtual 56, 3) := by decide +kernel
theorem dl_351 : decode code 351 = .ok (.aload_n 2, 1) := by decide +kernel
theorem dl_352 : decode code 352 = .ok (.aload_n 0, 1) := by decide +kernel
theorem dl_353 : decode code 353 = .ok (.iload_n 3, 1) := by decide +kernel
theorem dl_354 : decode code 354 = .ok (.iconst 1, 1) := by decide +kernel
theorem dl_355 : decode code 355 = .ok (.iadd, 1) := by decide +kernel
theorem dl_356 : decode code 356 = .ok (.iaload, 1) := by decide +kernel
theorem dl_357 : decode code 357 = .ok (.invokevirtual 59, 3) := by decide +kernel
theorem dl_360 : decode code 360 = .ok (.if_icmp .eq 5, 3) := by decide +kernel
theorem dl_363 : decode code 363 = .ok (.iconst 0, 1) := by decide +kernel
theorem dl_364 : decode code 364 = .ok (.ireturn, 1) := by decide +kernel
theorem dl_365 : decode code 365 = .ok (.iinc 3 6, 3) := by decide +kernel
theorem dl_368 : decode code 368 = .ok (.goto (-350), 3) := by decide +kernel
theorem dl_371 : decode code 371 = .ok (.iconst 1, 1) := by decide +kernel
theorem dl_372 : decode code 372 = .ok (.ireturn, 1) := by decide +kernel
/-- the law's frame: what holds of the machine while it runs -/
def lw_Cx (p : Program) (s : State) (m : MethodId) (args : Array Value) (c : Code) (D : va_G) (ad : Nat → Nat) (cA : Nat → ClassId) (A : Nat → Prop) (L : Nat) (xs : Nat → Int32) : Prop :=
  p.tables.exec = Jvm.exec ∧ c.code = code ∧ c.maxLocals = 4 ∧ s.vm.findClass (pm_on 12) = some m.cls ∧ (∀ w ∈ pm_tb, w.before args s = true) ∧ va_K D pm_cl (pm_tys cA) s ∧ (∀ q, s.heap.size ≤ q → A q) ∧ pm_X ad A s s.heap ∧ va_X (ad 2000) L xs s s.heap ∧ ad 2000 < s.heap.size ∧ ¬ A (ad 2000)
section LWG
variable {p : Program} {l : Launch} {e : Env} {s : State} {m : MethodId} {args : Array Value} {below : List Frame} {meth : Method} {c : Code} {Z : State → Prop} {D : va_G} {ad : Nat → Nat} {cA : Nat → ClassId} {A : Nat → Prop} {N : Nat} {xs : Nat → Int32} {kc ks : Nat}
variable {pc n : Nat} {L S S' : List Value} {σ : pm_S} {i : Instr}
theorem lq_1 (cx : lw_Cx p s m args c D ad cA A N xs) (hd : decode code pc = .ok (i, n)) (h : pm_G1 i n (pm_Go pm_Y0 kc ks p l e room_1 s m args below meth c Z D ad cA A 4) pc L S σ) : pm_Go pm_Y0 kc ks p l e room_1 s m args below meth c Z D ad cA A 4 pc L S σ := pm_G1_W cx.1 cx.2.1 hd h
theorem lq_a (cx : lw_Cx p s m args c D ad cA A N xs) (pc' : Nat) (hd : decode code pc = .ok (i, n)) (ha : pm_alu i S = some (n, S')) (hp : pc + n = pc') (k : pm_Go pm_Y0 kc ks p l e room_1 s m args below meth c Z D ad cA A 4 pc' L S' σ) : pm_Go pm_Y0 kc ks p l e room_1 s m args below meth c Z D ad cA A 4 pc L S σ := by
  subst hp; exact lq_1 cx hd (Or.inl ⟨S', ha, k⟩)
theorem lq_k (cx : lw_Cx p s m args c D ad cA A N xs) (pc' : Nat) (v : Int32) (hd : decode code pc = .ok (i, n)) (ha : pm_kc i = some (n, v)) (hp : pc + n = pc') (k : pm_Go pm_Y0 kc ks p l e room_1 s m args below meth c Z D ad cA A 4 pc' L (.int v :: S) σ) : pm_Go pm_Y0 kc ks p l e room_1 s m args below meth c Z D ad cA A 4 pc L S σ := by
  refine lq_a cx pc' hd ?_ hp k
  unfold pm_kc at ha
  unfold pm_alu
  split at ha <;> simp only [Option.some.injEq, Prod.mk.injEq, reduceCtorEq] at ha
  · obtain ⟨rfl, rfl⟩ := ha; rfl
  · obtain ⟨rfl, rfl⟩ := ha; rfl
  · obtain ⟨rfl, rfl⟩ := ha; rfl
theorem lq_l (cx : lw_Cx p s m args c D ad cA A N xs) (pc' : Nat) {kd j : Nat} {v : Value} (hd : decode code pc = .ok (i, n)) (ha : pm_ld i = some (kd, j, n)) (hv : L[j]? = some v) (hk : pm_kd v = kd) (hp : pc + n = pc') (k : pm_Go pm_Y0 kc ks p l e room_1 s m args below meth c Z D ad cA A 4 pc' L (v :: S) σ) : pm_Go pm_Y0 kc ks p l e room_1 s m args below meth c Z D ad cA A 4 pc L S σ := by
  subst hp; exact lq_1 cx hd (Or.inr (Or.inr (Or.inl ⟨kd, j, v, ha, hv, hk, k⟩)))
theorem lq_s (cx : lw_Cx p s m args c D ad cA A N xs) (pc' : Nat) {kd j : Nat} {v : Value} {L' : List Value} (hd : decode code pc = .ok (i, n)) (ha : pm_sr i = some (kd, j, n)) (hk : pm_kd v = kd) (hj : j + kd % 2 < L.length) (hL : pm_sto kd L j v = L') (hp : pc + n = pc') (k : pm_Go pm_Y0 kc ks p l e room_1 s m args below meth c Z D ad cA A 4 pc' L' S σ) : pm_Go pm_Y0 kc ks p l e room_1 s m args below meth c Z D ad cA A 4 pc L (v :: S) σ := by
  subst hp; subst hL; exact lq_1 cx hd (Or.inr (Or.inr (Or.inr (Or.inl ⟨kd, j, v, S, ha, rfl, hk, hj, k⟩))))
theorem lq_i (cx : lw_Cx p s m args c D ad cA A N xs) (pc' : Nat) {j : Nat} {d : Int} {x : Int32} {L' : List Value} (hd : decode code pc = .ok (.iinc j d, 3)) (hv : L[j]? = some (.int x)) (hL : pm_st L j (.int (x + Int32.ofInt d)) = L') (hp : pc + 3 = pc') (k : pm_Go pm_Y0 kc ks p l e room_1 s m args below meth c Z D ad cA A 4 pc' L' S σ) : pm_Go pm_Y0 kc ks p l e room_1 s m args below meth c Z D ad cA A 4 pc L S σ := by
  subst hp; subst hL; exact lq_1 cx hd (Or.inr (Or.inr (Or.inr (Or.inr (Or.inl ⟨j, d, x, rfl, rfl, hv, k⟩)))))
theorem lq_b (cx : lw_Cx p s m args c D ad cA A N xs) (pt pf : Nat) {cd : Prop} {off : Int} (hd : decode code pc = .ok (i, 3)) (ha : pm_br i S = some (cd, off, S')) (ht : (pc : Int) + off = ((pt : Nat) : Int)) (hp : pc + 3 = pf) (kt : cd → pm_Go pm_Y0 kc ks p l e room_1 s m args below meth c Z D ad cA A 4 pt L S' σ) (kf : ¬ cd → pm_Go pm_Y0 kc ks p l e room_1 s m args below meth c Z D ad cA A 4 pf L S' σ) : pm_Go pm_Y0 kc ks p l e room_1 s m args below meth c Z D ad cA A 4 pc L S σ := by
  subst hp; exact lq_1 cx hd (Or.inr (Or.inr (Or.inr (Or.inr (Or.inr (Or.inl ⟨cd, off, S', pt, ha, rfl, ht, kt, kf⟩))))))
theorem lq_g (cx : lw_Cx p s m args c D ad cA A N xs) (pt : Nat) {off : Int} (hd : decode code pc = .ok (.goto off, 3)) (ht : (pc : Int) + off = ((pt : Nat) : Int)) (k : pm_Go pm_Y0 kc ks p l e room_1 s m args below meth c Z D ad cA A 4 pt L S σ) : pm_Go pm_Y0 kc ks p l e room_1 s m args below meth c Z D ad cA A 4 pc L S σ :=
  lq_1 cx hd (Or.inr (Or.inr (Or.inr (Or.inr (Or.inr (Or.inr (Or.inl ⟨off, pt, rfl, rfl, ht, k⟩)))))))
theorem lq_tw (cx : lw_Cx p s m args c D ad cA A N xs) (cs : List (Int32 × Nat)) (dt : Nat) {d lo hi : Int} {offs : Array Int} {x : Int32} (hd : decode code pc = .ok (.tableswitch d lo hi offs, n)) (hok : pm_tsok pc d lo hi offs cs dt = true) (kc' : ∀ q ∈ cs, x = q.1 → pm_Go pm_Y0 kc ks p l e room_1 s m args below meth c Z D ad cA A 4 q.2 L S σ) (kd : (∀ q ∈ cs, ¬ x = q.1) → pm_Go pm_Y0 kc ks p l e room_1 s m args below meth c Z D ad cA A 4 dt L S σ) : pm_Go pm_Y0 kc ks p l e room_1 s m args below meth c Z D ad cA A 4 pc L (.int x :: S) σ := by
  simp only [pm_tsok, Bool.and_eq_true, decide_eq_true_eq, List.all_eq_true, List.mem_range] at hok
  obtain ⟨⟨h1, h2⟩, h3⟩ := hok
  by_cases hx : x.toInt < lo ∨ hi < x.toInt
  · refine lq_1 cx hd (Or.inr (Or.inr (Or.inr (Or.inr (Or.inr (Or.inr (Or.inr (Or.inl ⟨d, lo, hi, offs, x, S, d, dt, rfl, rfl, Or.inl ⟨hx, rfl⟩, h3, kd (fun q hq e => ?_)⟩))))))))
    obtain ⟨j, hj⟩ := List.getElem?_of_mem hq
    have hl := (List.getElem?_eq_some_iff.mp hj).1
    have := (h2 j hl).1
    rw [List.getD_eq_getElem?_getD, hj] at this
    have this : q.1.toInt = lo + (j : Int) := this
    rw [← e] at this
    omega
  · obtain ⟨j, hj⟩ : ∃ j : Nat, x.toInt - lo = j := ⟨(x.toInt - lo).toNat, by omega⟩
    have hl : j < cs.length := by omega
    obtain ⟨b1, b2⟩ := h2 j hl
    have hg : cs[j]? = some (cs.getD j (0, 0)) := by rw [List.getD_eq_getElem?_getD, List.getElem?_eq_getElem hl]; rfl
    exact lq_1 cx hd (Or.inr (Or.inr (Or.inr (Or.inr (Or.inr (Or.inr (Or.inr (Or.inl ⟨d, lo, hi, offs, x, S, _, (cs.getD j (0, 0)).2, rfl, rfl, Or.inr ⟨by omega, by omega, by rw [hj]; exact b2⟩, by omega, kc' _ (List.mem_of_getElem? hg) (Int32.toInt_inj.mp (by omega))⟩))))))))
theorem lq_sl (cx : lw_Cx p s m args c D ad cA A N xs) (pc' : Nat) {x : Int32} (hd : decode code pc = .ok (.iaload, 1)) (hp : pc + 1 = pc') (hx : vp_in x N) (k : pm_Go pm_Y0 kc ks p l e room_1 s m args below meth c Z D ad cA A 4 pc' L (.int (xs x.toNatClampNeg) :: S) σ) : pm_Go pm_Y0 kc ks p l e room_1 s m args below meth c Z D ad cA A 4 pc L (.int x :: .ref 2000 :: S) σ := by
  subst hp
  obtain ⟨c1, c2, c3, c4, c5, c6, c7, c8, c9, c10, c11⟩ := cx
  intro hN H locs ls hP hD hS hl
  rw [List.map_cons, List.map_cons]
  exact va_sld c1 c2 c9 c10 c11 hS hx hd (k hN H locs ls hP hD hS hl)
theorem lq_sn (cx : lw_Cx p s m args c D ad cA A N xs) (pc' : Nat) (hd : decode code pc = .ok (.arraylength, 1)) (hp : pc + 1 = pc') (k : pm_Go pm_Y0 kc ks p l e room_1 s m args below meth c Z D ad cA A 4 pc' L (.int (nI N) :: S) σ) : pm_Go pm_Y0 kc ks p l e room_1 s m args below meth c Z D ad cA A 4 pc L (.ref 2000 :: S) σ := by
  subst hp
  obtain ⟨c1, c2, c3, c4, c5, c6, c7, c8, c9, c10, c11⟩ := cx
  intro hN H locs ls hP hD hS hl
  rw [List.map_cons]
  exact va_slen c1 c2 c9 c10 c11 hS hd (k hN H locs ls hP hD hS hl)
theorem lq_v (cx : lw_Cx p s m args c D ad cA A N xs) (hk : kc ≤ 600000 ∧ ks ≤ 7302250) (pc' : Nat) {idx t k ci : Nat} {fl : List Nat} (As : List Value) {y : MethodName} {b : ByteArray} {n' : Nat} {r' : Option FieldType} {na : Nat} (hd : decode code pc = .ok (.invokevirtual idx, 3)) (hm : pm_mt 12 idx = some (0, t)) (hs : S = As.reverse ++ .ref k :: S') (hy : pm_m t = some (y, b, n', r', ci, na, ci + 1)) (hn : As.length = na) (hY : pm_Y0[k]? = some (.inr (ci, fl))) (h8 : (S'.map fun v => v.category).sum ≤ 8) (hp : pc + 3 = pc') {Q : Option Value → pm_S → Prop} (hc : pm_call pm_Y0 1000 t (.ref k :: As) σ Q) (kk : ∀ r σ', Q r σ' → pm_Go pm_Y0 kc ks p l e room_1 s m args below meth c Z D ad cA A 4 pc' L (r.toList ++ S') σ') : pm_Go pm_Y0 kc ks p l e room_1 s m args below meth c Z D ad cA A 4 pc L S σ := by
  subst hp
  obtain ⟨c1, c2, c3, c4, c5, c6, c7, c8, c9, c10, c11⟩ := cx
  exact pm_G4_W (d := 1000) pm_Y0_ok hk c1 c2 c3 c4 c5 c6 c7 c8 ⟨by decide, by decide⟩ (pm_sim pm_Y0_ok l D ad cA 1000) hd (Or.inl ⟨idx, t, As, k, S', ci, fl, Q, rfl, rfl, hm, hs, ⟨y, b, n', r', na, hy, hn⟩, hY, h8, hc, kk⟩)
end LWG
theorem lw_over {p : Program} {l : Launch} {e : Env} {s : State} {m : MethodId} {b : Nat} {below : List Frame} {meth : Method} {c : Code} {D : va_G} {ad : Nat → Nat} {cA : Nat → ClassId} {N j : Nat} {xs : Nat → Int32} {kc ks : Nat} {σ : pm_S} (cx : lw_Cx p s m #[Value.ref b] c D ad cA (fun q => s.heap.size ≤ q) N xs) (hk : kc ≤ 600000 ∧ ks ≤ 7302250) (hN : N ≤ 3072) (hr : meth.sig.returnType = ret) (hlocks : meth.locks = false) (h1 : N < j + 6) (h2 : j ≤ N + 6) : pm_Go pm_Y0 kc ks p l e room_1 s m #[Value.ref b] below meth c (lw_Z below #[Value.ref b] s) D ad cA (fun q => s.heap.size ≤ q) 4 18 [.ref 2000, .ref 0, .ref 10, .int (nI j)] [] σ := by
  refine lq_l cx 19 dl_18 rfl rfl rfl rfl ?_
  refine lq_l cx 20 dl_19 rfl rfl rfl rfl ?_
  refine lq_sn cx 21 dl_20 rfl ?_
  refine lq_k cx 23 6 dl_21 (by decide) rfl ?_
  refine lq_a cx 24 dl_23 rfl rfl ?_
  refine lq_b cx 371 27 dl_24 rfl (by decide) rfl (fun _ => ?_) (fun c24 => absurd ?_ c24)
  · refine lq_k cx 372 1 dl_371 (by decide) rfl ?_
    intro hN4 H locs ls hP hD hS hl
    refine va_forget (fun q hq => hS.2.2 q hq) ?_
    refine W.widen hk.1 hk.2 ?_
    exact lw_ret cx.1 cx.2.1 hr hlocks dl_372
  · rw [Int32.lt_iff_toInt_lt, show (6 : Int32) = nI 6 from rfl, pk_sub_toInt (by omega) (by omega), nI_toInt (by omega)]
    omega
/-- THE LAW'S LOOP, each answer against the reference's -/
theorem law_loop {p : Program} {l : Launch} {e : Env} {s : State} {m : MethodId} {b : Nat} {below : List Frame} {meth : Method} {c : Code} {D : va_G} {ad : Nat → Nat} {cA : Nat → ClassId} {N : Nat} {xs : Nat → Int32} {kc ks : Nat} {J : pm_S → Prop} (hk : kc ≤ 600000 ∧ ks ≤ 7302250) (hN : N ≤ 3072) (hr : meth.sig.returnType = ret) (hlocks : meth.locks = false) (cx : lw_Cx p s m #[Value.ref b] c D ad cA (fun q => s.heap.size ≤ q) N xs) (hJ : ∀ σ τ, iv_same σ τ → J σ → J τ) (hj : ∀ σ, iv_Inv J σ → iv_Step J 1000 5 200 [] σ) : ∀ (f j : Nat) (σ : pm_S), N < j + f → j ≤ N + 6 → iv_Inv J σ → pm_Go pm_Y0 kc ks p l e room_1 s m #[Value.ref b] below meth c (lw_Z below #[Value.ref b] s) D ad cA (fun q => s.heap.size ≤ q) 4 18 [.ref 2000, .ref 0, .ref 10, .int (nI j)] [] σ := by
  intro f
  induction f with
  | zero =>
    intro j σ h1 h2 hI
    exact lw_over cx hk hN hr hlocks (by omega) (by omega)
  | succ f ih =>
    intro j σ h1 h2 hI
    by_cases hlt : j + 6 ≤ N
    · have nx : ∀ σ', iv_Inv J σ' → pm_Go pm_Y0 kc ks p l e room_1 s m #[Value.ref b] below meth c (lw_Z below #[Value.ref b] s) D ad cA (fun q => s.heap.size ≤ q) 4 365 [.ref 2000, .ref 0, .ref 10, .int (nI j)] [] σ' := by
        intro σ' hI'
        refine lq_i cx 368 dl_365 rfl rfl rfl ?_
        refine lq_g cx 18 dl_368 (by decide) ?_
        rw [show nI j + Int32.ofInt 6 = nI (j + 6) by rw [show Int32.ofInt 6 = nI 6 from rfl, nI_add]]
        exact ih (j + 6) σ' (by omega) (by omega) hI'
      have at_ : ∀ k : Nat, k < 6 → vp_in (nI j + nI k) N := fun k hk => by rw [nI_add]; exact vp_in_nI (by omega) (by omega)
      have at0 : vp_in (nI j) N := vp_in_nI (by omega) (by omega)

      refine lq_l cx 19 dl_18 rfl rfl rfl rfl ?_
      refine lq_l cx 20 dl_19 rfl rfl rfl rfl ?_
      refine lq_sn cx 21 dl_20 rfl ?_
      refine lq_k cx 23 6 dl_21 (by decide) rfl ?_
      refine lq_a cx 24 dl_23 rfl rfl ?_
      refine lq_b cx 371 27 dl_24 rfl (by decide) rfl (fun c24 => absurd c24 ?_) (fun _ => ?_)
      · rw [Int32.lt_iff_toInt_lt, show (6 : Int32) = nI 6 from rfl, pk_sub_toInt (by omega) (by omega), nI_toInt (by omega)]
        omega
      refine lq_l cx 28 dl_27 rfl rfl rfl rfl ?_
      refine lq_l cx 29 dl_28 rfl rfl rfl rfl ?_
      refine lq_sl cx 30 dl_29 rfl at0 ?_
      refine lq_k cx 32 15 dl_30 (by decide) rfl ?_
      refine lq_a cx 33 dl_32 rfl rfl ?_
      refine lq_tw cx [(0, 92), (1, 105), (2, 168), (3, 191), (4, 204), (5, 227), (6, 250), (7, 273), (8, 296), (9, 319), (10, 342)] 365 dl_33 (by decide) (List.forall_mem_cons.mpr ⟨fun _ => ?_, List.forall_mem_cons.mpr ⟨fun _ => ?_, List.forall_mem_cons.mpr ⟨fun _ => ?_, List.forall_mem_cons.mpr ⟨fun _ => ?_, List.forall_mem_cons.mpr ⟨fun _ => ?_, List.forall_mem_cons.mpr ⟨fun _ => ?_, List.forall_mem_cons.mpr ⟨fun _ => ?_, List.forall_mem_cons.mpr ⟨fun _ => ?_, List.forall_mem_cons.mpr ⟨fun _ => ?_, List.forall_mem_cons.mpr ⟨fun _ => ?_, List.forall_mem_cons.mpr ⟨fun _ => ?_, fun _ h => absurd h List.not_mem_nil⟩⟩⟩⟩⟩⟩⟩⟩⟩⟩⟩) (fun _ => ?_)
      · -- case 0
        refine lq_l cx 93 dl_92 rfl rfl rfl rfl ?_
        refine lq_v cx hk 96 [] dl_93 rfl rfl m1 rfl rfl (Nat.le_of_ble_eq_true rfl) rfl (st_clear hJ hI) (fun r1 σ1 h1 => ?_)
        obtain ⟨v, rfl, h1⟩ := h1
        refine lq_l cx 97 dl_96 rfl rfl rfl rfl ?_
        refine lq_v cx hk 100 [] dl_97 rfl rfl m196 rfl rfl (Nat.le_of_ble_eq_true rfl) rfl h1 (fun r2 σ2 h2 => ?_)
        obtain ⟨rfl, h2⟩ := h2
        refine lq_b cx 365 103 dl_100 rfl (by decide) rfl (fun _ => nx σ2 h2) (fun c => absurd rfl c)
      · -- case 1
        refine lq_l cx 106 dl_105 rfl rfl rfl rfl ?_
        refine lq_l cx 107 dl_106 rfl rfl rfl rfl ?_
        refine lq_l cx 108 dl_107 rfl rfl rfl rfl ?_
        refine lq_k cx 109 1 dl_108 (by decide) rfl ?_
        refine lq_a cx 110 dl_109 rfl rfl ?_
        refine lq_sl cx 111 dl_110 rfl (at_ 1 (by decide)) ?_
        refine lq_l cx 112 dl_111 rfl rfl rfl rfl ?_
        refine lq_l cx 113 dl_112 rfl rfl rfl rfl ?_
        refine lq_k cx 114 2 dl_113 (by decide) rfl ?_
        refine lq_a cx 115 dl_114 rfl rfl ?_
        refine lq_sl cx 116 dl_115 rfl (at_ 2 (by decide)) ?_
        refine lq_l cx 117 dl_116 rfl rfl rfl rfl ?_
        refine lq_l cx 118 dl_117 rfl rfl rfl rfl ?_
        refine lq_k cx 119 3 dl_118 (by decide) rfl ?_
        refine lq_a cx 120 dl_119 rfl rfl ?_
        refine lq_sl cx 121 dl_120 rfl (at_ 3 (by decide)) ?_
        refine lq_l cx 122 dl_121 rfl rfl rfl rfl ?_
        refine lq_l cx 123 dl_122 rfl rfl rfl rfl ?_
        refine lq_k cx 124 4 dl_123 (by decide) rfl ?_
        refine lq_a cx 125 dl_124 rfl rfl ?_
        refine lq_sl cx 126 dl_125 rfl (at_ 4 (by decide)) ?_
        refine lq_l cx 127 dl_126 rfl rfl rfl rfl ?_
        refine lq_l cx 128 dl_127 rfl rfl rfl rfl ?_
        refine lq_k cx 129 5 dl_128 (by decide) rfl ?_
        refine lq_a cx 130 dl_129 rfl rfl ?_
        refine lq_sl cx 131 dl_130 rfl (at_ 5 (by decide)) ?_
        refine lq_v cx hk 134 [_, _, _, _, _] dl_131 rfl rfl m2 rfl rfl (Nat.le_of_ble_eq_true rfl) rfl (st_feed hJ hI) (fun r1 σ1 h1 => ?_)
        obtain ⟨v, rfl, h1⟩ := h1
        refine lq_l cx 135 dl_134 rfl rfl rfl rfl ?_
        refine lq_l cx 136 dl_135 rfl rfl rfl rfl ?_
        refine lq_l cx 137 dl_136 rfl rfl rfl rfl ?_
        refine lq_k cx 138 1 dl_137 (by decide) rfl ?_
        refine lq_a cx 139 dl_138 rfl rfl ?_
        refine lq_sl cx 140 dl_139 rfl (at_ 1 (by decide)) ?_
        refine lq_l cx 141 dl_140 rfl rfl rfl rfl ?_
        refine lq_l cx 142 dl_141 rfl rfl rfl rfl ?_
        refine lq_k cx 143 2 dl_142 (by decide) rfl ?_
        refine lq_a cx 144 dl_143 rfl rfl ?_
        refine lq_sl cx 145 dl_144 rfl (at_ 2 (by decide)) ?_
        refine lq_l cx 146 dl_145 rfl rfl rfl rfl ?_
        refine lq_l cx 147 dl_146 rfl rfl rfl rfl ?_
        refine lq_k cx 148 3 dl_147 (by decide) rfl ?_
        refine lq_a cx 149 dl_148 rfl rfl ?_
        refine lq_sl cx 150 dl_149 rfl (at_ 3 (by decide)) ?_
        refine lq_l cx 151 dl_150 rfl rfl rfl rfl ?_
        refine lq_l cx 152 dl_151 rfl rfl rfl rfl ?_
        refine lq_k cx 153 4 dl_152 (by decide) rfl ?_
        refine lq_a cx 154 dl_153 rfl rfl ?_
        refine lq_sl cx 155 dl_154 rfl (at_ 4 (by decide)) ?_
        refine lq_l cx 156 dl_155 rfl rfl rfl rfl ?_
        refine lq_l cx 157 dl_156 rfl rfl rfl rfl ?_
        refine lq_k cx 158 5 dl_157 (by decide) rfl ?_
        refine lq_a cx 159 dl_158 rfl rfl ?_
        refine lq_sl cx 160 dl_159 rfl (at_ 5 (by decide)) ?_
        refine lq_v cx hk 163 [_, _, _, _, _] dl_160 rfl rfl m197 rfl rfl (Nat.le_of_ble_eq_true rfl) rfl h1 (fun r2 σ2 h2 => ?_)
        obtain ⟨rfl, h2⟩ := h2
        refine lq_b cx 365 166 dl_163 rfl (by decide) rfl (fun _ => nx σ2 h2) (fun c => absurd rfl c)
      · -- case 2
        refine lq_l cx 169 dl_168 rfl rfl rfl rfl ?_
        refine lq_l cx 170 dl_169 rfl rfl rfl rfl ?_
        refine lq_l cx 171 dl_170 rfl rfl rfl rfl ?_
        refine lq_k cx 172 1 dl_171 (by decide) rfl ?_
        refine lq_a cx 173 dl_172 rfl rfl ?_
        refine lq_sl cx 174 dl_173 rfl (at_ 1 (by decide)) ?_
        refine lq_v cx hk 177 [_] dl_174 rfl rfl m4 rfl rfl (Nat.le_of_ble_eq_true rfl) rfl (st_end hJ hI) (fun r1 σ1 h1 => ?_)
        obtain ⟨v, rfl, h1⟩ := h1
        refine lq_l cx 178 dl_177 rfl rfl rfl rfl ?_
        refine lq_l cx 179 dl_178 rfl rfl rfl rfl ?_
        refine lq_l cx 180 dl_179 rfl rfl rfl rfl ?_
        refine lq_k cx 181 1 dl_180 (by decide) rfl ?_
        refine lq_a cx 182 dl_181 rfl rfl ?_
        refine lq_sl cx 183 dl_182 rfl (at_ 1 (by decide)) ?_
        refine lq_v cx hk 186 [_] dl_183 rfl rfl m199 rfl rfl (Nat.le_of_ble_eq_true rfl) rfl h1 (fun r2 σ2 h2 => ?_)
        obtain ⟨rfl, h2⟩ := h2
        refine lq_b cx 365 189 dl_186 rfl (by decide) rfl (fun _ => nx σ2 h2) (fun c => absurd rfl c)
      · -- case 3
        refine lq_l cx 192 dl_191 rfl rfl rfl rfl ?_
        refine lq_v cx hk 195 [] dl_192 rfl rfl m5 rfl rfl (Nat.le_of_ble_eq_true rfl) rfl (hj σ hI) (fun r1 σ1 h1 => ?_)
        obtain ⟨v, rfl, h1⟩ := h1
        refine lq_l cx 196 dl_195 rfl rfl rfl rfl ?_
        refine lq_v cx hk 199 [] dl_196 rfl rfl m200 rfl rfl (Nat.le_of_ble_eq_true rfl) rfl h1 (fun r2 σ2 h2 => ?_)
        obtain ⟨rfl, h2⟩ := h2
        refine lq_b cx 365 202 dl_199 rfl (by decide) rfl (fun _ => nx σ2 h2) (fun c => absurd rfl c)
      · -- case 4
        refine lq_l cx 205 dl_204 rfl rfl rfl rfl ?_
        refine lq_l cx 206 dl_205 rfl rfl rfl rfl ?_
        refine lq_l cx 207 dl_206 rfl rfl rfl rfl ?_
        refine lq_k cx 208 1 dl_207 (by decide) rfl ?_
        refine lq_a cx 209 dl_208 rfl rfl ?_
        refine lq_sl cx 210 dl_209 rfl (at_ 1 (by decide)) ?_
        refine lq_v cx hk 213 [_] dl_210 rfl rfl m6 rfl rfl (Nat.le_of_ble_eq_true rfl) rfl (st_count hI) (fun r1 σ1 h1 => ?_)
        obtain ⟨v, rfl, h1⟩ := h1
        refine lq_l cx 214 dl_213 rfl rfl rfl rfl ?_
        refine lq_l cx 215 dl_214 rfl rfl rfl rfl ?_
        refine lq_l cx 216 dl_215 rfl rfl rfl rfl ?_
        refine lq_k cx 217 1 dl_216 (by decide) rfl ?_
        refine lq_a cx 218 dl_217 rfl rfl ?_
        refine lq_sl cx 219 dl_218 rfl (at_ 1 (by decide)) ?_
        refine lq_v cx hk 222 [_] dl_219 rfl rfl m314 rfl rfl (Nat.le_of_ble_eq_true rfl) rfl h1 (fun r2 σ2 h2 => ?_)
        obtain ⟨rfl, h2⟩ := h2
        refine lq_b cx 365 225 dl_222 rfl (by decide) rfl (fun _ => nx σ2 h2) (fun c => absurd rfl c)
      · -- case 5
        refine lq_l cx 228 dl_227 rfl rfl rfl rfl ?_
        refine lq_l cx 229 dl_228 rfl rfl rfl rfl ?_
        refine lq_l cx 230 dl_229 rfl rfl rfl rfl ?_
        refine lq_k cx 231 1 dl_230 (by decide) rfl ?_
        refine lq_a cx 232 dl_231 rfl rfl ?_
        refine lq_sl cx 233 dl_232 rfl (at_ 1 (by decide)) ?_
        refine lq_v cx hk 236 [_] dl_233 rfl rfl m7 rfl rfl (Nat.le_of_ble_eq_true rfl) rfl (st_kind hI) (fun r1 σ1 h1 => ?_)
        obtain ⟨v, rfl, h1⟩ := h1
        refine lq_l cx 237 dl_236 rfl rfl rfl rfl ?_
        refine lq_l cx 238 dl_237 rfl rfl rfl rfl ?_
        refine lq_l cx 239 dl_238 rfl rfl rfl rfl ?_
        refine lq_k cx 240 1 dl_239 (by decide) rfl ?_
        refine lq_a cx 241 dl_240 rfl rfl ?_
        refine lq_sl cx 242 dl_241 rfl (at_ 1 (by decide)) ?_
        refine lq_v cx hk 245 [_] dl_242 rfl rfl m315 rfl rfl (Nat.le_of_ble_eq_true rfl) rfl h1 (fun r2 σ2 h2 => ?_)
        obtain ⟨rfl, h2⟩ := h2
        refine lq_b cx 365 248 dl_245 rfl (by decide) rfl (fun _ => nx σ2 h2) (fun c => absurd rfl c)
      · -- case 6
        refine lq_l cx 251 dl_250 rfl rfl rfl rfl ?_
        refine lq_l cx 252 dl_251 rfl rfl rfl rfl ?_
        refine lq_l cx 253 dl_252 rfl rfl rfl rfl ?_
        refine lq_k cx 254 1 dl_253 (by decide) rfl ?_
        refine lq_a cx 255 dl_254 rfl rfl ?_
        refine lq_sl cx 256 dl_255 rfl (at_ 1 (by decide)) ?_
        refine lq_v cx hk 259 [_] dl_256 rfl rfl m8 rfl rfl (Nat.le_of_ble_eq_true rfl) rfl (st_type hI) (fun r1 σ1 h1 => ?_)
        obtain ⟨v, rfl, h1⟩ := h1
        refine lq_l cx 260 dl_259 rfl rfl rfl rfl ?_
        refine lq_l cx 261 dl_260 rfl rfl rfl rfl ?_
        refine lq_l cx 262 dl_261 rfl rfl rfl rfl ?_
        refine lq_k cx 263 1 dl_262 (by decide) rfl ?_
        refine lq_a cx 264 dl_263 rfl rfl ?_
        refine lq_sl cx 265 dl_264 rfl (at_ 1 (by decide)) ?_
        refine lq_v cx hk 268 [_] dl_265 rfl rfl m317 rfl rfl (Nat.le_of_ble_eq_true rfl) rfl h1 (fun r2 σ2 h2 => ?_)
        obtain ⟨rfl, h2⟩ := h2
        refine lq_b cx 365 271 dl_268 rfl (by decide) rfl (fun _ => nx σ2 h2) (fun c => absurd rfl c)
      · -- case 7
        refine lq_l cx 274 dl_273 rfl rfl rfl rfl ?_
        refine lq_l cx 275 dl_274 rfl rfl rfl rfl ?_
        refine lq_l cx 276 dl_275 rfl rfl rfl rfl ?_
        refine lq_k cx 277 1 dl_276 (by decide) rfl ?_
        refine lq_a cx 278 dl_277 rfl rfl ?_
        refine lq_sl cx 279 dl_278 rfl (at_ 1 (by decide)) ?_
        refine lq_v cx hk 282 [_] dl_279 rfl rfl m9 rfl rfl (Nat.le_of_ble_eq_true rfl) rfl (st_cell hI) (fun r1 σ1 h1 => ?_)
        obtain ⟨v, rfl, h1⟩ := h1
        refine lq_l cx 283 dl_282 rfl rfl rfl rfl ?_
        refine lq_l cx 284 dl_283 rfl rfl rfl rfl ?_
        refine lq_l cx 285 dl_284 rfl rfl rfl rfl ?_
        refine lq_k cx 286 1 dl_285 (by decide) rfl ?_
        refine lq_a cx 287 dl_286 rfl rfl ?_
        refine lq_sl cx 288 dl_287 rfl (at_ 1 (by decide)) ?_
        refine lq_v cx hk 291 [_] dl_288 rfl rfl m318 rfl rfl (Nat.le_of_ble_eq_true rfl) rfl h1 (fun r2 σ2 h2 => ?_)
        obtain ⟨rfl, h2⟩ := h2
        refine lq_b cx 365 294 dl_291 rfl (by decide) rfl (fun _ => nx σ2 h2) (fun c => absurd rfl c)
      · -- case 8
        refine lq_l cx 297 dl_296 rfl rfl rfl rfl ?_
        refine lq_l cx 298 dl_297 rfl rfl rfl rfl ?_
        refine lq_l cx 299 dl_298 rfl rfl rfl rfl ?_
        refine lq_k cx 300 1 dl_299 (by decide) rfl ?_
        refine lq_a cx 301 dl_300 rfl rfl ?_
        refine lq_sl cx 302 dl_301 rfl (at_ 1 (by decide)) ?_
        refine lq_v cx hk 305 [_] dl_302 rfl rfl m10 rfl rfl (Nat.le_of_ble_eq_true rfl) rfl (st_meaning hI) (fun r1 σ1 h1 => ?_)
        obtain ⟨v, rfl, h1⟩ := h1
        refine lq_l cx 306 dl_305 rfl rfl rfl rfl ?_
        refine lq_l cx 307 dl_306 rfl rfl rfl rfl ?_
        refine lq_l cx 308 dl_307 rfl rfl rfl rfl ?_
        refine lq_k cx 309 1 dl_308 (by decide) rfl ?_
        refine lq_a cx 310 dl_309 rfl rfl ?_
        refine lq_sl cx 311 dl_310 rfl (at_ 1 (by decide)) ?_
        refine lq_v cx hk 314 [_] dl_311 rfl rfl m319 rfl rfl (Nat.le_of_ble_eq_true rfl) rfl h1 (fun r2 σ2 h2 => ?_)
        obtain ⟨rfl, h2⟩ := h2
        refine lq_b cx 365 317 dl_314 rfl (by decide) rfl (fun _ => nx σ2 h2) (fun c => absurd rfl c)
      · -- case 9
        refine lq_l cx 320 dl_319 rfl rfl rfl rfl ?_
        refine lq_l cx 321 dl_320 rfl rfl rfl rfl ?_
        refine lq_l cx 322 dl_321 rfl rfl rfl rfl ?_
        refine lq_k cx 323 1 dl_322 (by decide) rfl ?_
        refine lq_a cx 324 dl_323 rfl rfl ?_
        refine lq_sl cx 325 dl_324 rfl (at_ 1 (by decide)) ?_
        refine lq_v cx hk 328 [_] dl_325 rfl rfl m11 rfl rfl (Nat.le_of_ble_eq_true rfl) rfl (st_frame hI) (fun r1 σ1 h1 => ?_)
        obtain ⟨v, rfl, h1⟩ := h1
        refine lq_l cx 329 dl_328 rfl rfl rfl rfl ?_
        refine lq_l cx 330 dl_329 rfl rfl rfl rfl ?_
        refine lq_l cx 331 dl_330 rfl rfl rfl rfl ?_
        refine lq_k cx 332 1 dl_331 (by decide) rfl ?_
        refine lq_a cx 333 dl_332 rfl rfl ?_
        refine lq_sl cx 334 dl_333 rfl (at_ 1 (by decide)) ?_
        refine lq_v cx hk 337 [_] dl_334 rfl rfl m320 rfl rfl (Nat.le_of_ble_eq_true rfl) rfl h1 (fun r2 σ2 h2 => ?_)
        obtain ⟨rfl, h2⟩ := h2
        refine lq_b cx 365 340 dl_337 rfl (by decide) rfl (fun _ => nx σ2 h2) (fun c => absurd rfl c)
      · -- case 10
        refine lq_l cx 343 dl_342 rfl rfl rfl rfl ?_
        refine lq_l cx 344 dl_343 rfl rfl rfl rfl ?_
        refine lq_l cx 345 dl_344 rfl rfl rfl rfl ?_
        refine lq_k cx 346 1 dl_345 (by decide) rfl ?_
        refine lq_a cx 347 dl_346 rfl rfl ?_
        refine lq_sl cx 348 dl_347 rfl (at_ 1 (by decide)) ?_
        refine lq_v cx hk 351 [_] dl_348 rfl rfl m12 rfl rfl (Nat.le_of_ble_eq_true rfl) rfl (st_place hI) (fun r1 σ1 h1 => ?_)
        obtain ⟨v, rfl, h1⟩ := h1
        refine lq_l cx 352 dl_351 rfl rfl rfl rfl ?_
        refine lq_l cx 353 dl_352 rfl rfl rfl rfl ?_
        refine lq_l cx 354 dl_353 rfl rfl rfl rfl ?_
        refine lq_k cx 355 1 dl_354 (by decide) rfl ?_
        refine lq_a cx 356 dl_355 rfl rfl ?_
        refine lq_sl cx 357 dl_356 rfl (at_ 1 (by decide)) ?_
        refine lq_v cx hk 360 [_] dl_357 rfl rfl m321 rfl rfl (Nat.le_of_ble_eq_true rfl) rfl h1 (fun r2 σ2 h2 => ?_)
        obtain ⟨rfl, h2⟩ := h2
        refine lq_b cx 365 363 dl_360 rfl (by decide) rfl (fun _ => nx σ2 h2) (fun c => absurd rfl c)
      · exact nx σ hI
    · exact lw_over cx hk hN hr hlocks (by omega) (by omega)
