theorem d277_0 : decode prog_14_method_91_code 0 = .ok (.aload_n 0, 1) := by decide +kernel
theorem d277_1 : decode prog_14_method_91_code 1 = .ok (.iload_n 1, 1) := by decide +kernel
theorem d277_2 : decode prog_14_method_91_code 2 = .ok (.invokevirtual 575, 3) := by decide +kernel
theorem d277_5 : decode prog_14_method_91_code 5 = .ok (.istore_n 2, 1) := by decide +kernel
theorem d277_6 : decode prog_14_method_91_code 6 = .ok (.aload_n 0, 1) := by decide +kernel
theorem d277_7 : decode prog_14_method_91_code 7 = .ok (.getfield 38, 3) := by decide +kernel
theorem d277_10 : decode prog_14_method_91_code 10 = .ok (.iload_n 1, 1) := by decide +kernel
theorem d277_11 : decode prog_14_method_91_code 11 = .ok (.iaload, 1) := by decide +kernel
theorem d277_12 : decode prog_14_method_91_code 12 = .ok (.istore_n 3, 1) := by decide +kernel
theorem d277_13 : decode prog_14_method_91_code 13 = .ok (.iconst 0, 1) := by decide +kernel
theorem d277_14 : decode prog_14_method_91_code 14 = .ok (.istore 4, 2) := by decide +kernel
theorem d277_16 : decode prog_14_method_91_code 16 = .ok (.iload 4, 2) := by decide +kernel
theorem d277_18 : decode prog_14_method_91_code 18 = .ok (.iload_n 2, 1) := by decide +kernel
theorem d277_19 : decode prog_14_method_91_code 19 = .ok (.if_icmp .ge 16, 3) := by decide +kernel
theorem d277_22 : decode prog_14_method_91_code 22 = .ok (.aload_n 0, 1) := by decide +kernel
theorem d277_23 : decode prog_14_method_91_code 23 = .ok (.getfield 44, 3) := by decide +kernel
theorem d277_26 : decode prog_14_method_91_code 26 = .ok (.iload_n 3, 1) := by decide +kernel
theorem d277_27 : decode prog_14_method_91_code 27 = .ok (.iaload, 1) := by decide +kernel
theorem d277_28 : decode prog_14_method_91_code 28 = .ok (.istore_n 3, 1) := by decide +kernel
theorem d277_29 : decode prog_14_method_91_code 29 = .ok (.iinc 4 1, 3) := by decide +kernel
theorem d277_32 : decode prog_14_method_91_code 32 = .ok (.goto (-16), 3) := by decide +kernel
theorem d277_35 : decode prog_14_method_91_code 35 = .ok (.aload_n 0, 1) := by decide +kernel
theorem d277_36 : decode prog_14_method_91_code 36 = .ok (.getfield 29, 3) := by decide +kernel
theorem d277_39 : decode prog_14_method_91_code 39 = .ok (.iload_n 3, 1) := by decide +kernel
theorem d277_40 : decode prog_14_method_91_code 40 = .ok (.iaload, 1) := by decide +kernel
theorem d277_41 : decode prog_14_method_91_code 41 = .ok (.bipush 7, 2) := by decide +kernel
theorem d277_43 : decode prog_14_method_91_code 43 = .ok (.if_icmp .ne 12, 3) := by decide +kernel
theorem d277_46 : decode prog_14_method_91_code 46 = .ok (.aload_n 0, 1) := by decide +kernel
theorem d277_47 : decode prog_14_method_91_code 47 = .ok (.getfield 35, 3) := by decide +kernel
theorem d277_50 : decode prog_14_method_91_code 50 = .ok (.iload_n 3, 1) := by decide +kernel
theorem d277_51 : decode prog_14_method_91_code 51 = .ok (.iaload, 1) := by decide +kernel
theorem d277_52 : decode prog_14_method_91_code 52 = .ok (.goto 4, 3) := by decide +kernel
theorem d277_55 : decode prog_14_method_91_code 55 = .ok (.iconst (-1), 1) := by decide +kernel
theorem d277_56 : decode prog_14_method_91_code 56 = .ok (.istore 4, 2) := by decide +kernel
theorem d277_58 : decode prog_14_method_91_code 58 = .ok (.aload_n 0, 1) := by decide +kernel
theorem d277_59 : decode prog_14_method_91_code 59 = .ok (.getfield 29, 3) := by decide +kernel
theorem d277_62 : decode prog_14_method_91_code 62 = .ok (.iload_n 3, 1) := by decide +kernel
theorem d277_63 : decode prog_14_method_91_code 63 = .ok (.iaload, 1) := by decide +kernel
theorem d277_64 : decode prog_14_method_91_code 64 = .ok (.bipush 7, 2) := by decide +kernel
theorem d277_66 : decode prog_14_method_91_code 66 = .ok (.if_icmp .ne 12, 3) := by decide +kernel
theorem d277_69 : decode prog_14_method_91_code 69 = .ok (.aload_n 0, 1) := by decide +kernel
theorem d277_70 : decode prog_14_method_91_code 70 = .ok (.getfield 44, 3) := by decide +kernel
theorem d277_73 : decode prog_14_method_91_code 73 = .ok (.iload_n 3, 1) := by decide +kernel
theorem d277_74 : decode prog_14_method_91_code 74 = .ok (.iaload, 1) := by decide +kernel
theorem d277_75 : decode prog_14_method_91_code 75 = .ok (.goto 4, 3) := by decide +kernel
theorem d277_78 : decode prog_14_method_91_code 78 = .ok (.iload_n 3, 1) := by decide +kernel
theorem d277_79 : decode prog_14_method_91_code 79 = .ok (.istore 5, 2) := by decide +kernel
theorem d277_81 : decode prog_14_method_91_code 81 = .ok (.aload_n 0, 1) := by decide +kernel
theorem d277_82 : decode prog_14_method_91_code 82 = .ok (.getfield 44, 3) := by decide +kernel
theorem d277_85 : decode prog_14_method_91_code 85 = .ok (.iload 5, 2) := by decide +kernel
theorem d277_87 : decode prog_14_method_91_code 87 = .ok (.iaload, 1) := by decide +kernel
theorem d277_88 : decode prog_14_method_91_code 88 = .ok (.istore 6, 2) := by decide +kernel
theorem d277_90 : decode prog_14_method_91_code 90 = .ok (.aload_n 0, 1) := by decide +kernel
theorem d277_91 : decode prog_14_method_91_code 91 = .ok (.getfield 35, 3) := by decide +kernel
theorem d277_94 : decode prog_14_method_91_code 94 = .ok (.aload_n 0, 1) := by decide +kernel
theorem d277_95 : decode prog_14_method_91_code 95 = .ok (.getfield 47, 3) := by decide +kernel
theorem d277_98 : decode prog_14_method_91_code 98 = .ok (.iload_n 1, 1) := by decide +kernel
theorem d277_99 : decode prog_14_method_91_code 99 = .ok (.iaload, 1) := by decide +kernel
theorem d277_100 : decode prog_14_method_91_code 100 = .ok (.iaload, 1) := by decide +kernel
theorem d277_101 : decode prog_14_method_91_code 101 = .ok (.istore 7, 2) := by decide +kernel
theorem d277_103 : decode prog_14_method_91_code 103 = .ok (.aload_n 0, 1) := by decide +kernel
theorem d277_104 : decode prog_14_method_91_code 104 = .ok (.getfield 29, 3) := by decide +kernel
theorem d277_107 : decode prog_14_method_91_code 107 = .ok (.iload 5, 2) := by decide +kernel
theorem d277_109 : decode prog_14_method_91_code 109 = .ok (.iaload, 1) := by decide +kernel
theorem d277_110 : decode prog_14_method_91_code 110 = .ok (.bipush 8, 2) := by decide +kernel
theorem d277_112 : decode prog_14_method_91_code 112 = .ok (.isub, 1) := by decide +kernel
theorem d277_113 : decode prog_14_method_91_code 113 = .ok (.istore 8, 2) := by decide +kernel
theorem d277_115 : decode prog_14_method_91_code 115 = .ok (.iload 7, 2) := by decide +kernel
theorem d277_117 : decode prog_14_method_91_code 117 = .ok (.ifCond .le 11, 3) := by decide +kernel
theorem d277_120 : decode prog_14_method_91_code 120 = .ok (.iload 8, 2) := by decide +kernel
theorem d277_122 : decode prog_14_method_91_code 122 = .ok (.ifCond .le 6, 3) := by decide +kernel
theorem d277_125 : decode prog_14_method_91_code 125 = .ok (.bipush 43, 2) := by decide +kernel
theorem d277_127 : decode prog_14_method_91_code 127 = .ok (.ireturn, 1) := by decide +kernel
theorem d277_128 : decode prog_14_method_91_code 128 = .ok (.iload 8, 2) := by decide +kernel
theorem d277_130 : decode prog_14_method_91_code 130 = .ok (.ifCond .ne 13, 3) := by decide +kernel
theorem d277_133 : decode prog_14_method_91_code 133 = .ok (.aload_n 0, 1) := by decide +kernel
theorem d277_134 : decode prog_14_method_91_code 134 = .ok (.getfield 35, 3) := by decide +kernel
theorem d277_137 : decode prog_14_method_91_code 137 = .ok (.iload 5, 2) := by decide +kernel
theorem d277_139 : decode prog_14_method_91_code 139 = .ok (.iaload, 1) := by decide +kernel
theorem d277_140 : decode prog_14_method_91_code 140 = .ok (.goto 35, 3) := by decide +kernel
theorem d277_143 : decode prog_14_method_91_code 143 = .ok (.iload 8, 2) := by decide +kernel
theorem d277_145 : decode prog_14_method_91_code 145 = .ok (.iconst 1, 1) := by decide +kernel
theorem d277_146 : decode prog_14_method_91_code 146 = .ok (.if_icmp .ne 18, 3) := by decide +kernel
theorem d277_149 : decode prog_14_method_91_code 149 = .ok (.aload_n 0, 1) := by decide +kernel
theorem d277_150 : decode prog_14_method_91_code 150 = .ok (.getfield 35, 3) := by decide +kernel
theorem d277_153 : decode prog_14_method_91_code 153 = .ok (.aload_n 0, 1) := by decide +kernel
theorem d277_154 : decode prog_14_method_91_code 154 = .ok (.getfield 41, 3) := by decide +kernel
theorem d277_157 : decode prog_14_method_91_code 157 = .ok (.iload 5, 2) := by decide +kernel
theorem d277_159 : decode prog_14_method_91_code 159 = .ok (.iaload, 1) := by decide +kernel
theorem d277_160 : decode prog_14_method_91_code 160 = .ok (.iaload, 1) := by decide +kernel
theorem d277_161 : decode prog_14_method_91_code 161 = .ok (.goto 14, 3) := by decide +kernel
theorem d277_164 : decode prog_14_method_91_code 164 = .ok (.aload_n 0, 1) := by decide +kernel
theorem d277_165 : decode prog_14_method_91_code 165 = .ok (.aload_n 0, 1) := by decide +kernel
theorem d277_166 : decode prog_14_method_91_code 166 = .ok (.getfield 35, 3) := by decide +kernel
theorem d277_169 : decode prog_14_method_91_code 169 = .ok (.iload 5, 2) := by decide +kernel
theorem d277_171 : decode prog_14_method_91_code 171 = .ok (.iaload, 1) := by decide +kernel
theorem d277_172 : decode prog_14_method_91_code 172 = .ok (.invokevirtual 580, 3) := by decide +kernel
theorem d277_175 : decode prog_14_method_91_code 175 = .ok (.istore 9, 2) := by decide +kernel
theorem d277_177 : decode prog_14_method_91_code 177 = .ok (.iload 4, 2) := by decide +kernel
theorem d277_179 : decode prog_14_method_91_code 179 = .ok (.ifCond .lt 31, 3) := by decide +kernel
theorem d277_182 : decode prog_14_method_91_code 182 = .ok (.iload 8, 2) := by decide +kernel
theorem d277_184 : decode prog_14_method_91_code 184 = .ok (.ifCond .gt 23, 3) := by decide +kernel
theorem d277_187 : decode prog_14_method_91_code 187 = .ok (.iload 9, 2) := by decide +kernel
theorem d277_189 : decode prog_14_method_91_code 189 = .ok (.iload 4, 2) := by decide +kernel
theorem d277_191 : decode prog_14_method_91_code 191 = .ok (.sipush 256, 3) := by decide +kernel
theorem d277_194 : decode prog_14_method_91_code 194 = .ok (.idiv, 1) := by decide +kernel
theorem d277_195 : decode prog_14_method_91_code 195 = .ok (.iconst 3, 1) := by decide +kernel
theorem d277_196 : decode prog_14_method_91_code 196 = .ok (.if_icmp .ge 7, 3) := by decide +kernel
theorem d277_199 : decode prog_14_method_91_code 199 = .ok (.iconst 0, 1) := by decide +kernel
theorem d277_200 : decode prog_14_method_91_code 200 = .ok (.goto 4, 3) := by decide +kernel
theorem d277_203 : decode prog_14_method_91_code 203 = .ok (.iconst 1, 1) := by decide +kernel
theorem d277_204 : decode prog_14_method_91_code 204 = .ok (.if_icmp .eq 6, 3) := by decide +kernel
theorem d277_207 : decode prog_14_method_91_code 207 = .ok (.bipush 15, 2) := by decide +kernel
theorem d277_209 : decode prog_14_method_91_code 209 = .ok (.ireturn, 1) := by decide +kernel
theorem d277_210 : decode prog_14_method_91_code 210 = .ok (.iload 6, 2) := by decide +kernel
theorem d277_212 : decode prog_14_method_91_code 212 = .ok (.ifCond .lt 50, 3) := by decide +kernel
theorem d277_215 : decode prog_14_method_91_code 215 = .ok (.iload 8, 2) := by decide +kernel
theorem d277_217 : decode prog_14_method_91_code 217 = .ok (.iconst 2, 1) := by decide +kernel
theorem d277_218 : decode prog_14_method_91_code 218 = .ok (.if_icmp .eq 41, 3) := by decide +kernel
theorem d277_221 : decode prog_14_method_91_code 221 = .ok (.iload 4, 2) := by decide +kernel
theorem d277_223 : decode prog_14_method_91_code 223 = .ok (.ifCond .lt 14, 3) := by decide +kernel
theorem d277_226 : decode prog_14_method_91_code 226 = .ok (.iload 4, 2) := by decide +kernel
theorem d277_228 : decode prog_14_method_91_code 228 = .ok (.sipush 256, 3) := by decide +kernel
theorem d277_231 : decode prog_14_method_91_code 231 = .ok (.idiv, 1) := by decide +kernel
theorem d277_232 : decode prog_14_method_91_code 232 = .ok (.iconst 3, 1) := by decide +kernel
theorem d277_233 : decode prog_14_method_91_code 233 = .ok (.irem, 1) := by decide +kernel
theorem d277_234 : decode prog_14_method_91_code 234 = .ok (.ifCond .eq 25, 3) := by decide +kernel
theorem d277_237 : decode prog_14_method_91_code 237 = .ok (.aload_n 0, 1) := by decide +kernel
theorem d277_238 : decode prog_14_method_91_code 238 = .ok (.getfield 29, 3) := by decide +kernel
theorem d277_241 : decode prog_14_method_91_code 241 = .ok (.iload 6, 2) := by decide +kernel
theorem d277_243 : decode prog_14_method_91_code 243 = .ok (.iaload, 1) := by decide +kernel
theorem d277_244 : decode prog_14_method_91_code 244 = .ok (.aload_n 0, 1) := by decide +kernel
theorem d277_245 : decode prog_14_method_91_code 245 = .ok (.getfield 35, 3) := by decide +kernel
theorem d277_248 : decode prog_14_method_91_code 248 = .ok (.iload 6, 2) := by decide +kernel
theorem d277_250 : decode prog_14_method_91_code 250 = .ok (.iaload, 1) := by decide +kernel
theorem d277_251 : decode prog_14_method_91_code 251 = .ok (.iload 9, 2) := by decide +kernel
theorem d277_253 : decode prog_14_method_91_code 253 = .ok (.invokestatic 583, 3) := by decide +kernel
theorem d277_256 : decode prog_14_method_91_code 256 = .ok (.ifCond .eq 6, 3) := by decide +kernel
theorem d277_259 : decode prog_14_method_91_code 259 = .ok (.bipush 18, 2) := by decide +kernel
theorem d277_261 : decode prog_14_method_91_code 261 = .ok (.ireturn, 1) := by decide +kernel
theorem d277_262 : decode prog_14_method_91_code 262 = .ok (.iload 8, 2) := by decide +kernel
theorem d277_264 : decode prog_14_method_91_code 264 = .ok (.ifCond .ne 7, 3) := by decide +kernel
theorem d277_267 : decode prog_14_method_91_code 267 = .ok (.iconst 1, 1) := by decide +kernel
theorem d277_268 : decode prog_14_method_91_code 268 = .ok (.goto 76, 3) := by decide +kernel
theorem d277_271 : decode prog_14_method_91_code 271 = .ok (.iload 8, 2) := by decide +kernel
theorem d277_273 : decode prog_14_method_91_code 273 = .ok (.iconst 1, 1) := by decide +kernel
theorem d277_274 : decode prog_14_method_91_code 274 = .ok (.if_icmp .ne 38, 3) := by decide +kernel
theorem d277_277 : decode prog_14_method_91_code 277 = .ok (.aload_n 0, 1) := by decide +kernel
theorem d277_278 : decode prog_14_method_91_code 278 = .ok (.getfield 35, 3) := by decide +kernel
theorem d277_281 : decode prog_14_method_91_code 281 = .ok (.aload_n 0, 1) := by decide +kernel
theorem d277_282 : decode prog_14_method_91_code 282 = .ok (.getfield 44, 3) := by decide +kernel
theorem d277_285 : decode prog_14_method_91_code 285 = .ok (.aload_n 0, 1) := by decide +kernel
theorem d277_286 : decode prog_14_method_91_code 286 = .ok (.getfield 38, 3) := by decide +kernel
theorem d277_289 : decode prog_14_method_91_code 289 = .ok (.iload 5, 2) := by decide +kernel
theorem d277_291 : decode prog_14_method_91_code 291 = .ok (.iaload, 1) := by decide +kernel
theorem d277_292 : decode prog_14_method_91_code 292 = .ok (.iaload, 1) := by decide +kernel
theorem d277_293 : decode prog_14_method_91_code 293 = .ok (.iaload, 1) := by decide +kernel
theorem d277_294 : decode prog_14_method_91_code 294 = .ok (.aload_n 0, 1) := by decide +kernel
theorem d277_295 : decode prog_14_method_91_code 295 = .ok (.getfield 35, 3) := by decide +kernel
theorem d277_298 : decode prog_14_method_91_code 298 = .ok (.aload_n 0, 1) := by decide +kernel
theorem d277_299 : decode prog_14_method_91_code 299 = .ok (.getfield 38, 3) := by decide +kernel
theorem d277_302 : decode prog_14_method_91_code 302 = .ok (.iload 5, 2) := by decide +kernel
theorem d277_304 : decode prog_14_method_91_code 304 = .ok (.iaload, 1) := by decide +kernel
theorem d277_305 : decode prog_14_method_91_code 305 = .ok (.iaload, 1) := by decide +kernel
theorem d277_306 : decode prog_14_method_91_code 306 = .ok (.isub, 1) := by decide +kernel
theorem d277_307 : decode prog_14_method_91_code 307 = .ok (.iconst 1, 1) := by decide +kernel
theorem d277_308 : decode prog_14_method_91_code 308 = .ok (.iadd, 1) := by decide +kernel
theorem d277_309 : decode prog_14_method_91_code 309 = .ok (.goto 35, 3) := by decide +kernel
theorem d277_312 : decode prog_14_method_91_code 312 = .ok (.iload 9, 2) := by decide +kernel
theorem d277_314 : decode prog_14_method_91_code 314 = .ok (.sipush 10105, 3) := by decide +kernel
theorem d277_317 : decode prog_14_method_91_code 317 = .ok (.if_icmp .lt 7, 3) := by decide +kernel
theorem d277_320 : decode prog_14_method_91_code 320 = .ok (.iconst 3, 1) := by decide +kernel
theorem d277_321 : decode prog_14_method_91_code 321 = .ok (.goto 23, 3) := by decide +kernel
theorem d277_324 : decode prog_14_method_91_code 324 = .ok (.iload 9, 2) := by decide +kernel
theorem d277_326 : decode prog_14_method_91_code 326 = .ok (.sipush 10100, 3) := by decide +kernel
theorem d277_329 : decode prog_14_method_91_code 329 = .ok (.if_icmp .lt 8, 3) := by decide +kernel
theorem d277_332 : decode prog_14_method_91_code 332 = .ok (.bipush 6, 2) := by decide +kernel
theorem d277_334 : decode prog_14_method_91_code 334 = .ok (.goto 10, 3) := by decide +kernel
theorem d277_337 : decode prog_14_method_91_code 337 = .ok (.aload_n 0, 1) := by decide +kernel
theorem d277_338 : decode prog_14_method_91_code 338 = .ok (.getfield 83, 3) := by decide +kernel
theorem d277_341 : decode prog_14_method_91_code 341 = .ok (.iload 9, 2) := by decide +kernel
theorem d277_343 : decode prog_14_method_91_code 343 = .ok (.iaload, 1) := by decide +kernel
theorem d277_344 : decode prog_14_method_91_code 344 = .ok (.istore 10, 2) := by decide +kernel
theorem d277_346 : decode prog_14_method_91_code 346 = .ok (.aload_n 0, 1) := by decide +kernel
theorem d277_347 : decode prog_14_method_91_code 347 = .ok (.getfield 38, 3) := by decide +kernel
theorem d277_350 : decode prog_14_method_91_code 350 = .ok (.iload_n 1, 1) := by decide +kernel
theorem d277_351 : decode prog_14_method_91_code 351 = .ok (.iaload, 1) := by decide +kernel
theorem d277_352 : decode prog_14_method_91_code 352 = .ok (.istore_n 3, 1) := by decide +kernel
theorem d277_353 : decode prog_14_method_91_code 353 = .ok (.aload_n 0, 1) := by decide +kernel
theorem d277_354 : decode prog_14_method_91_code 354 = .ok (.getfield 552, 3) := by decide +kernel
theorem d277_357 : decode prog_14_method_91_code 357 = .ok (.iload_n 2, 1) := by decide +kernel
theorem d277_358 : decode prog_14_method_91_code 358 = .ok (.isub, 1) := by decide +kernel
theorem d277_359 : decode prog_14_method_91_code 359 = .ok (.istore 11, 2) := by decide +kernel
theorem d277_361 : decode prog_14_method_91_code 361 = .ok (.iload 11, 2) := by decide +kernel
theorem d277_363 : decode prog_14_method_91_code 363 = .ok (.aload_n 0, 1) := by decide +kernel
theorem d277_364 : decode prog_14_method_91_code 364 = .ok (.getfield 552, 3) := by decide +kernel
theorem d277_367 : decode prog_14_method_91_code 367 = .ok (.if_icmp .ge 109, 3) := by decide +kernel
theorem d277_370 : decode prog_14_method_91_code 370 = .ok (.aload_n 0, 1) := by decide +kernel
theorem d277_371 : decode prog_14_method_91_code 371 = .ok (.getfield 92, 3) := by decide +kernel
theorem d277_374 : decode prog_14_method_91_code 374 = .ok (.iload 11, 2) := by decide +kernel
theorem d277_376 : decode prog_14_method_91_code 376 = .ok (.iload 8, 2) := by decide +kernel
theorem d277_378 : decode prog_14_method_91_code 378 = .ok (.iastore, 1) := by decide +kernel
theorem d277_379 : decode prog_14_method_91_code 379 = .ok (.aload_n 0, 1) := by decide +kernel
theorem d277_380 : decode prog_14_method_91_code 380 = .ok (.getfield 95, 3) := by decide +kernel
theorem d277_383 : decode prog_14_method_91_code 383 = .ok (.iload 11, 2) := by decide +kernel
theorem d277_385 : decode prog_14_method_91_code 385 = .ok (.iload 9, 2) := by decide +kernel
theorem d277_387 : decode prog_14_method_91_code 387 = .ok (.iastore, 1) := by decide +kernel
theorem d277_388 : decode prog_14_method_91_code 388 = .ok (.aload_n 0, 1) := by decide +kernel
theorem d277_389 : decode prog_14_method_91_code 389 = .ok (.getfield 98, 3) := by decide +kernel
theorem d277_392 : decode prog_14_method_91_code 392 = .ok (.iload 11, 2) := by decide +kernel
theorem d277_394 : decode prog_14_method_91_code 394 = .ok (.iload 7, 2) := by decide +kernel
theorem d277_396 : decode prog_14_method_91_code 396 = .ok (.iastore, 1) := by decide +kernel
theorem d277_397 : decode prog_14_method_91_code 397 = .ok (.aload_n 0, 1) := by decide +kernel
theorem d277_398 : decode prog_14_method_91_code 398 = .ok (.getfield 101, 3) := by decide +kernel
theorem d277_401 : decode prog_14_method_91_code 401 = .ok (.iload 11, 2) := by decide +kernel
theorem d277_403 : decode prog_14_method_91_code 403 = .ok (.iload 4, 2) := by decide +kernel
theorem d277_405 : decode prog_14_method_91_code 405 = .ok (.iastore, 1) := by decide +kernel
theorem d277_406 : decode prog_14_method_91_code 406 = .ok (.aload_n 0, 1) := by decide +kernel
theorem d277_407 : decode prog_14_method_91_code 407 = .ok (.getfield 104, 3) := by decide +kernel
theorem d277_410 : decode prog_14_method_91_code 410 = .ok (.iload 11, 2) := by decide +kernel
theorem d277_412 : decode prog_14_method_91_code 412 = .ok (.iload 4, 2) := by decide +kernel
theorem d277_414 : decode prog_14_method_91_code 414 = .ok (.ifCond .lt 11, 3) := by decide +kernel
theorem d277_417 : decode prog_14_method_91_code 417 = .ok (.iload 4, 2) := by decide +kernel
theorem d277_419 : decode prog_14_method_91_code 419 = .ok (.invokestatic 587, 3) := by decide +kernel
theorem d277_422 : decode prog_14_method_91_code 422 = .ok (.goto 7, 3) := by decide +kernel
theorem d277_425 : decode prog_14_method_91_code 425 = .ok (.aload_n 0, 1) := by decide +kernel
theorem d277_426 : decode prog_14_method_91_code 426 = .ok (.getfield 568, 3) := by decide +kernel
theorem d277_429 : decode prog_14_method_91_code 429 = .ok (.iastore, 1) := by decide +kernel
theorem d277_430 : decode prog_14_method_91_code 430 = .ok (.aload_n 0, 1) := by decide +kernel
theorem d277_431 : decode prog_14_method_91_code 431 = .ok (.dup, 1) := by decide +kernel
theorem d277_432 : decode prog_14_method_91_code 432 = .ok (.getfield 568, 3) := by decide +kernel
theorem d277_435 : decode prog_14_method_91_code 435 = .ok (.iload 4, 2) := by decide +kernel
theorem d277_437 : decode prog_14_method_91_code 437 = .ok (.ifCond .lt 7, 3) := by decide +kernel
theorem d277_440 : decode prog_14_method_91_code 440 = .ok (.iconst 0, 1) := by decide +kernel
theorem d277_441 : decode prog_14_method_91_code 441 = .ok (.goto 5, 3) := by decide +kernel
theorem d277_444 : decode prog_14_method_91_code 444 = .ok (.iload 10, 2) := by decide +kernel
theorem d277_446 : decode prog_14_method_91_code 446 = .ok (.iadd, 1) := by decide +kernel
theorem d277_447 : decode prog_14_method_91_code 447 = .ok (.putfield 568, 3) := by decide +kernel
theorem d277_450 : decode prog_14_method_91_code 450 = .ok (.aload_n 0, 1) := by decide +kernel
theorem d277_451 : decode prog_14_method_91_code 451 = .ok (.getfield 53, 3) := by decide +kernel
theorem d277_454 : decode prog_14_method_91_code 454 = .ok (.iload_n 3, 1) := by decide +kernel
theorem d277_455 : decode prog_14_method_91_code 455 = .ok (.aload_n 0, 1) := by decide +kernel
theorem d277_456 : decode prog_14_method_91_code 456 = .ok (.getfield 104, 3) := by decide +kernel
theorem d277_459 : decode prog_14_method_91_code 459 = .ok (.iload 11, 2) := by decide +kernel
theorem d277_461 : decode prog_14_method_91_code 461 = .ok (.iaload, 1) := by decide +kernel
theorem d277_462 : decode prog_14_method_91_code 462 = .ok (.iastore, 1) := by decide +kernel
theorem d277_463 : decode prog_14_method_91_code 463 = .ok (.aload_n 0, 1) := by decide +kernel
theorem d277_464 : decode prog_14_method_91_code 464 = .ok (.getfield 44, 3) := by decide +kernel
theorem d277_467 : decode prog_14_method_91_code 467 = .ok (.iload_n 3, 1) := by decide +kernel
theorem d277_468 : decode prog_14_method_91_code 468 = .ok (.iaload, 1) := by decide +kernel
theorem d277_469 : decode prog_14_method_91_code 469 = .ok (.istore_n 3, 1) := by decide +kernel
theorem d277_470 : decode prog_14_method_91_code 470 = .ok (.iinc 11 1, 3) := by decide +kernel
theorem d277_473 : decode prog_14_method_91_code 473 = .ok (.goto (-112), 3) := by decide +kernel
theorem d277_476 : decode prog_14_method_91_code 476 = .ok (.aload_n 0, 1) := by decide +kernel
theorem d277_477 : decode prog_14_method_91_code 477 = .ok (.getfield 568, 3) := by decide +kernel
theorem d277_480 : decode prog_14_method_91_code 480 = .ok (.sipush 4096, 3) := by decide +kernel
theorem d277_483 : decode prog_14_method_91_code 483 = .ok (.if_icmp .le 8, 3) := by decide +kernel
theorem d277_486 : decode prog_14_method_91_code 486 = .ok (.bipush 19, 2) := by decide +kernel
theorem d277_488 : decode prog_14_method_91_code 488 = .ok (.goto 4, 3) := by decide +kernel
theorem d277_491 : decode prog_14_method_91_code 491 = .ok (.iconst 0, 1) := by decide +kernel
theorem d277_492 : decode prog_14_method_91_code 492 = .ok (.ireturn, 1) := by decide +kernel
theorem m277 : pm_m 277 = some (⟨"TypeRulesModel", "declarationRule", "(I)I"⟩, prog_14_method_91_code, 12, (some FieldType.int), 10, 1, 11) := rfl
/-! A DECLARATION in the reference: its variables get their sort, type, place and cells -/
theorem pm_nr0 (x : Int32) : pm_nr 0 x = x := rfl
theorem rv_mid {α : Type} {X Y : List α} {v w : α} {k : Nat} : (X ++ v :: Y)[k]? = if k = X.length then some v else (X ++ w :: Y)[k]? := by
  by_cases q : k = X.length
  · rw [if_pos q, List.getElem?_append_right (by omega), q, Nat.sub_self]; rfl
  · rw [if_neg q]
    by_cases p : k < X.length
    · rw [List.getElem?_append_left p, List.getElem?_append_left p]
    · rw [List.getElem?_append_right (by omega), List.getElem?_append_right (by omega)]
      obtain ⟨n, hn⟩ : ∃ n, k - X.length = n + 1 := ⟨k - X.length - 1, by omega⟩
      rw [hn, List.getElem?_cons_succ, List.getElem?_cons_succ]
theorem rl_sjl {s : Nat} {t at_ : Int32} {f z m j : Nat} {vs : List rl_V} : (rl_sj s t at_ f z m j vs).length = vs.length := by
  unfold rl_sj
  rw [List.length_append, rl_sel, List.length_take, List.length_drop]
  omega
def rv_ty (s : Nat) (t : Int32) : Int32 := if s = 2 then rv_q t.toNatClampNeg else t
theorem rr_sjn {l : List pg_N} {a : Nat → Nat} {R : Int32 → Int32 → Prop} {σ0 σ τ : pm_S} {u u' s z m i j idx part : Nat} {t at_ : Int32} {y : rl_B} {r : List rl_B} {T : (Nat → Int32) × (Nat → Int32) × (Nat → Int32)} (h : rr_I l a R σ0 σ true u (rl_Aj s t at_ z m i j y r T)) (hj : j < m) (hm : m ≤ y.2.2.2.2.length) (hs : s ≤ 2) (il : i + 1 + j < l.length) (hidx : idx = (rv_L r).length + (y.2.2.2.2.length - (m - j))) (hus : ∀ (k : Nat) (v : rl_V), k < m → y.2.2.2.2[k]? = some v → v.2.2.2.1 = part) (hF : rr_F σ0 τ) (e56 : τ.2.2 56 = σ.2.2 56) (e58 : τ.2.2 58 = σ.2.2 58) (e57 : τ.2.2 57 = upd (σ.2.2 57) (a (i + 1 + j)) (nI (if at_ = -1 then y.2.2.2.1 + j * z else rl_img at_))) (eb : ∀ q, 64 ≤ q → q ≤ 67 → τ.2.2 q = σ.2.2 q) (e41 : τ.1 10 41 = σ.1 10 41) (e35 : τ.1 10 35 = σ.1 10 35) (e48 : τ.1 10 48 = nI u') (e69 : τ.2.2 69 = σ.2.2 69) (ev : ∀ k x, 70 ≤ k → k ≤ 74 → x ≠ idx → τ.2.2 k x = σ.2.2 k x) (v70 : τ.2.2 70 idx = nI s) (v71 : τ.2.2 71 idx = rv_ty s t) (v72 : τ.2.2 72 idx = nI part) (v73 : τ.2.2 73 idx = at_) (v74 : τ.2.2 74 idx = nI (if at_ = -1 then y.2.2.2.1 + j * z else rl_img at_)) : rr_I l a R σ0 τ true u' (rl_Aj s t at_ z m i (j + 1) y r T) := by
  have inj := (rr_T h).2.1
  obtain ⟨h0, h1, h2, hD, hb, hv, h6⟩ := h
  have hb : rb_I l a true (rl_yj s t at_ z m j y :: r) σ := hb
  have hv : rv_I R (rv_L (rl_yj s t at_ z m j y :: r)) σ := hv
  obtain ⟨v, w1, w2, w3⟩ := rl_sjs (s := s) (t := t) (at_ := at_) (f := y.2.2.2.1) (z := z) hj hm
  have hl1 : (rl_sj s t at_ y.2.2.2.1 z m j y.2.2.2.2).length = y.2.2.2.2.length := rl_sjl
  have hl2 : (rl_sj s t at_ y.2.2.2.1 z m (j + 1) y.2.2.2.2).length = y.2.2.2.2.length := rl_sjl
  refine ⟨h0, h1, hF, fun c hc => ?_, ?_, ?_, fun _ => e48⟩
  · obtain ⟨d1, d2, d3⟩ := hD c hc
    refine ⟨by rw [e56]; exact d1, fun z => ?_, fun z => by rw [e58]; exact d3 z⟩
    have d2 := d2 z
    rw [e57, upd_if]
    by_cases q : c = i + 1 + j
    · rw [if_pos (by rw [q])]
      show _ = rl_cj at_ y.2.2.2.1 _ i (j + 1) T.2.1 c
      unfold rl_cj
      rw [if_pos (c := i < c ∧ c ≤ i + (j + 1)) (by omega), show c - i - 1 = j by omega]
    · rw [if_neg (fun w => q (inj c _ hc il w)), d2]
      show rl_cj at_ y.2.2.2.1 _ i j T.2.1 c = rl_cj at_ y.2.2.2.1 _ i (j + 1) T.2.1 c
      unfold rl_cj
      by_cases p : i < c ∧ c ≤ i + j
      · rw [if_pos (c := i < c ∧ c ≤ i + j) p, if_pos (c := i < c ∧ c ≤ i + (j + 1)) (by omega)]
      · rw [if_neg (c := i < c ∧ c ≤ i + j) p, if_neg (c := i < c ∧ c ≤ i + (j + 1)) (by omega)]
  · obtain ⟨b1, b2, b3⟩ := hb
    refine ⟨b1, e35.trans b2, fun b x hx => ?_⟩
    have hx : rl_blk (rl_yj s t at_ z m (j + 1) y :: r) b = some x := hx
    have frE : ∀ b, b ≤ r.length → rv_fr (rl_yj s t at_ z m (j + 1) y :: r) b = rv_fr (rl_yj s t at_ z m j y :: r) b := fun b hb' => by
      unfold rv_fr
      rw [List.length_cons, List.length_cons, show r.length + 1 - b = (r.length - b) + 1 by omega, List.drop_succ_cons, List.drop_succ_cons]
    rw [rl_blkc] at hx
    by_cases q : b = r.length
    · rw [if_pos q] at hx
      cases hx
      obtain ⟨g1, g2, g3, g4⟩ := b3 b (rl_yj s t at_ z m j y) (by rw [rl_blkc, if_pos q])
      refine ⟨g1, g2, g3, ?_⟩
      unfold rb_at at g4 ⊢
      show _ ∧ _ = nI (rv_fr (rl_yj s t at_ z m (j + 1) y :: r) b) ∧ _ = nI (rv_fr (rl_yj s t at_ z m (j + 1) y :: r) b + (rl_sj s t at_ y.2.2.2.1 z m (j + 1) y.2.2.2.2).length) ∧ _
      rw [frE b (by omega), eb 64 (by omega) (by omega), eb 65 (by omega) (by omega), eb 66 (by omega) (by omega), hl2]
      refine ⟨g4.1, g4.2.1, ?_, fun z => ?_⟩
      · have g := g4.2.2.1
        have g : σ.2.2 66 b = nI (rv_fr (rl_yj s t at_ z m j y :: r) b + (rl_sj s t at_ y.2.2.2.1 z m j y.2.2.2.2).length) := g
        rw [hl1] at g
        exact g
      · rcases z with z | z
        · cases z
        · have z : b + 1 < r.length + 1 := z
          omega
    · rw [if_neg q] at hx
      have hl := rl_blkl hx
      obtain ⟨g1, g2, g3, g4⟩ := b3 b x (by rw [rl_blkc, if_neg q]; exact hx)
      refine ⟨g1, g2, g3, ?_⟩
      unfold rb_at at g4 ⊢
      show _ ∧ _ = nI (rv_fr (rl_yj s t at_ z m (j + 1) y :: r) b) ∧ _ = nI (rv_fr (rl_yj s t at_ z m (j + 1) y :: r) b + _) ∧ _
      rw [frE b (by omega), eb 64 (by omega) (by omega), eb 65 (by omega) (by omega), eb 66 (by omega) (by omega), eb 67 (by omega) (by omega)]
      exact g4
  · obtain ⟨v1, v2, v3⟩ := hv
    have L1 : rv_L (rl_yj s t at_ z m j y :: r) = (rv_L r ++ (rl_settle s t at_ y.2.2.2.1 z j (y.2.2.2.2.drop (m - j))).reverse) ++ v :: (y.2.2.2.2.take (m - j - 1)).reverse := by
      show rv_L r ++ (rl_sj s t at_ y.2.2.2.1 z m j y.2.2.2.2).reverse = _
      rw [w2, List.reverse_append, List.reverse_cons, List.append_assoc, List.append_assoc]; rfl
    have L2 : rv_L (rl_yj s t at_ z m (j + 1) y :: r) = (rv_L r ++ (rl_settle s t at_ y.2.2.2.1 z j (y.2.2.2.2.drop (m - j))).reverse) ++ (v.1, s, t, v.2.2.2.1, at_, if at_ = -1 then y.2.2.2.1 + j * z else rl_img at_) :: (y.2.2.2.2.take (m - j - 1)).reverse := by
      show rv_L r ++ (rl_sj s t at_ y.2.2.2.1 z m (j + 1) y.2.2.2.2).reverse = _
      rw [w3, List.reverse_append, List.reverse_cons, List.append_assoc, List.append_assoc]; rfl
    have LX : (rv_L r ++ (rl_settle s t at_ y.2.2.2.1 z j (y.2.2.2.2.drop (m - j))).reverse).length = idx := by
      rw [List.length_append, List.length_reverse, rl_sel, List.length_drop]; omega
    have LL : (rv_L (rl_yj s t at_ z m (j + 1) y :: r)).length = (rv_L (rl_yj s t at_ z m j y :: r)).length := by
      rw [L1, L2]
      simp only [List.length_append, List.length_cons]
    show rv_I R (rv_L (rl_yj s t at_ z m (j + 1) y :: r)) τ
    refine ⟨by rw [LL]; exact v1, by rw [LL]; exact e41.trans v2, fun k w hk => ?_⟩
    rw [L2, rv_mid (w := v), LX] at hk
    rw [L1] at v3
    by_cases q : k = idx
    · rw [if_pos q] at hk
      cases hk
      have g := v3 k v (by rw [rv_mid (w := v), LX, if_pos q])
      rw [q] at g ⊢
      unfold rv_at at g ⊢
      rw [e69, v70, v71, v72, v73, v74]
      refine ⟨g.1, fun _ => ⟨rfl, rfl, ?_, rfl, rfl⟩, fun z => ?_⟩
      · rw [← hus _ v (by omega) w1]
      · have z : s = 3 := z
        omega
    · rw [if_neg q] at hk
      have g := v3 k w hk
      unfold rv_at at g ⊢
      rw [e69, ev 70 k (by omega) (by omega) q, ev 71 k (by omega) (by omega) q, ev 72 k (by omega) (by omega) q, ev 73 k (by omega) (by omega) q, ev 74 k (by omega) (by omega) q]
      exact g
theorem re281a {d : Nat} {σ : pm_S} {Q : Option Value → pm_S → Prop} {ar o : Nat} {at_ : Int32} (hat : at_ = nI (256 * ar + o)) (ha : ar < 6) (ho : o < 256) (hQ : Q (some (.int (nI (rl_img at_)))) σ) : pm_call pm_Y0 (d + 1) 281 [.int at_] σ Q := by
  subst hat
  exact re281 ha ho hQ
def rl_uj (at_ : Int32) (u z j : Nat) : Nat := if at_ = -1 then u + j * z else u
theorem re277l {d : Nat} {l : List pg_N} {a : Nat → Nat} {R : Int32 → Int32 → Prop} {σ0 : pm_S} {Q : Option Value → pm_S → Prop} {NN s z m i part : Nat} {t at_ x5 x6 : Int32} {y : rl_B} {r : List rl_B} {T : (Nat → Int32) × (Nat → Int32) × (Nat → Int32)} (hG : lg_G l NN) (i0 : i < l.length) (hm : m ≤ y.2.2.2.2.length) (hs : s ≤ 2) (hc : ∀ j, j < m → i + 1 + j ∈ rl_c l i ∧ rl_z l (i + 1 + j) = 1) (hlast : ∀ j, j + 1 < m → i + 1 + j + 1 < i + rl_z l i) (hus : ∀ (k : Nat) (v : rl_V), k < m → y.2.2.2.2[k]? = some v → v.2.2.2.1 = part) (hat : at_ = -1 ∨ ∃ ar o, ar < 6 ∧ o < 256 ∧ at_ = nI (256 * ar + o)) (hz : y.2.2.2.1 + m * z < 2 ^ 28) (hQ : ∀ σ', rr_I l a R σ0 σ' true (rl_uj at_ y.2.2.2.1 z m) (rl_Aj s t at_ z m i m y r T) → Q (some (.int (nI (if 4096 < rl_uj at_ y.2.2.2.1 z m then 19 else 0)))) σ') : ∀ (n j : Nat) (σ : pm_S) (c : Int32), j + n = m → (j < m → c = nI (a (i + 1 + j))) → rr_I l a R σ0 σ true (rl_uj at_ y.2.2.2.1 z j) (rl_Aj s t at_ z m i j y r T) → pm_WP pm_Y0 (pm_call pm_Y0 (d + 2)) 10 prog_14_method_91_code (some FieldType.int) Q 361 [.ref 10, .int (nI (a i)), .int (nI m), .int c, .int at_, .int x5, .int x6, .int (nI part), .int (nI s), .int (rv_ty s t), .int (nI z), .int (nI ((rv_L r).length + (y.2.2.2.2.length - (m - j))))] [] σ := by
  intro n
  induction n with
  | zero =>
    intro j σ c hj hc' h
    obtain rfl : j = m := by omega
    have e41 : σ.1 10 41 = nI ((rv_L r).length + y.2.2.2.2.length) := by
      have e := h.2.2.2.2.2.1.2.1
      have e : σ.1 10 41 = nI (rv_L (rl_yj s t at_ z j j y :: r)).length := e
      rw [e]
      show nI (rv_L r ++ (rl_sj s t at_ y.2.2.2.1 z j j y.2.2.2.2).reverse).length = _
      rw [List.length_append, List.length_reverse, rl_sjl]
    have e48 := h.2.2.2.2.2.2 rfl
    have hV : (rv_L r).length + y.2.2.2.2.length ≤ 4096 := by
      have e := h.2.2.2.2.2.1.1
      have e : (rv_L r ++ (rl_sj s t at_ y.2.2.2.1 z j j y.2.2.2.2).reverse).length ≤ 4096 := e
      rw [List.length_append, List.length_reverse, rl_sjl] at e
      exact e
    have eu : rl_uj at_ y.2.2.2.1 z j < 2 ^ 28 := by
      unfold rl_uj
      by_cases q : at_ = -1
      · rw [if_pos q]; exact hz
      · rw [if_neg q]; omega
    have et := nI_toInt (n := rl_uj at_ y.2.2.2.1 z j) (by omega)
    rw [Nat.sub_self, Nat.sub_zero]
    refine wq_l 363 d277_361 rfl rfl rfl rfl ?_
    refine wq_l 364 d277_363 rfl rfl rfl rfl ?_
    refine wq_gf (ci := 10) (j := 41) (f := 0) (v := .int (nI ((rv_L r).length + y.2.2.2.2.length))) 367 d277_364 rfl rfl rfl (congrArg Value.int (e41)) rfl ?_
    refine wq_b 476 370 d277_367 rfl (by decide) rfl (fun c367 => ?_) (fun c367 => absurd (Int32.le_refl _) c367)
    refine wq_l 477 d277_476 rfl rfl rfl rfl ?_
    refine wq_gf (ci := 10) (j := 48) (f := 0) (v := .int (nI (rl_uj at_ y.2.2.2.1 z j))) 480 d277_477 rfl rfl rfl (congrArg Value.int (e48)) rfl ?_
    refine wq_k 483 4096 d277_480 (by decide) rfl ?_
    refine wq_b 491 486 d277_483 rfl (by decide) rfl (fun c483 => ?_) (fun c483 => ?_)
    · -- pc 491
      refine wq_k 492 0 d277_491 (by decide) rfl ?_
      refine wq_ri d277_492 (rfl) ?_
      have c483 : _ := c483
      rw [i_le, et] at c483
      have c483 : _ ≤ (4096 : Int) := c483
      have hQ := hQ σ h
      rw [if_neg (by omega)] at hQ
      exact hQ
    · -- pc 486
      refine wq_k 488 19 d277_486 (by decide) rfl ?_
      refine wq_g 492 d277_488 (by decide) ?_
      refine wq_ri d277_492 (rfl) ?_
      have c483 : _ := c483
      rw [i_le, et] at c483
      have c483 : ¬ _ ≤ (4096 : Int) := c483
      have hQ := hQ σ h
      rw [if_pos (by omega)] at hQ
      exact hQ
  | succ n ih =>
    intro j σ c hj hc' h
    have jm : j < m := by omega
    obtain rfl := hc' jm
    obtain ⟨ch, cz⟩ := hc j jm
    have e41 : σ.1 10 41 = nI ((rv_L r).length + y.2.2.2.2.length) := by
      have e := h.2.2.2.2.2.1.2.1
      have e : σ.1 10 41 = nI (rv_L (rl_yj s t at_ z m j y :: r)).length := e
      rw [e]
      show nI (rv_L r ++ (rl_sj s t at_ y.2.2.2.1 z m j y.2.2.2.2).reverse).length = _
      rw [List.length_append, List.length_reverse, rl_sjl]
    have hV : (rv_L r).length + y.2.2.2.2.length ≤ 4096 := by
      have e := h.2.2.2.2.2.1.1
      have e : (rv_L r ++ (rl_sj s t at_ y.2.2.2.1 z m j y.2.2.2.2).reverse).length ≤ 4096 := e
      rw [List.length_append, List.length_reverse, rl_sjl] at e
      exact e
    have e48 := h.2.2.2.2.2.2 rfl
    have cl := rl_cm ch
    have zl := (rl_zc hG.1 i0).2
    have il : i + 1 + j < l.length := by omega
    have bc := rt_b (rr_T h) il
    have bcc := rt_c (rr_T h) il
    have en := rt_n (rr_T h) hG i0 ch
    rw [cz] at en
    have E1 : ∀ {x : Nat}, x = (rv_L r).length + (y.2.2.2.2.length - (m - j)) → x < (rv_L r).length + y.2.2.2.2.length := fun e => by omega
    have nx : (rv_L r).length + (y.2.2.2.2.length - (m - j)) + 1 = (rv_L r).length + (y.2.2.2.2.length - (m - (j + 1))) := by omega
    generalize hid : (rv_L r).length + (y.2.2.2.2.length - (m - j)) = id at *
    have il' := E1 rfl
    have ei := nI_toInt (n := id) (by omega)
    have eic := nI_clamp (n := id) (by omega)
    have eV := nI_toInt (n := (rv_L r).length + y.2.2.2.2.length) (by omega)
    have bi : vp_in (nI id) 5000 := vp_in_iff.mpr (by rw [ei]; omega)
    rcases hat with hat | ⟨ar, o, ha, ho, hat⟩
    · subst hat
      have euj : rl_uj (-1) y.2.2.2.1 z j = y.2.2.2.1 + j * z := if_pos rfl
      have euj1 : rl_uj (-1) y.2.2.2.1 z (j + 1) = y.2.2.2.1 + j * z + z := by
        rw [show rl_uj (-1) y.2.2.2.1 z (j + 1) = y.2.2.2.1 + (j + 1) * z from if_pos rfl, Nat.succ_mul, Nat.add_assoc]
      rw [euj] at e48
      refine wq_l 363 d277_361 rfl rfl rfl rfl ?_
      refine wq_l 364 d277_363 rfl rfl rfl rfl ?_
      refine wq_gf (ci := 10) (j := 41) (f := 0) (v := .int (nI ((rv_L r).length + y.2.2.2.2.length))) 367 d277_364 rfl rfl rfl (congrArg Value.int (e41)) rfl ?_
      refine wq_b 476 370 d277_367 rfl (by decide) rfl (fun c367 => absurd c367 (by rw [i_le, eV, ei]; omega)) (fun c367 => ?_)
      refine wq_l 371 d277_370 rfl rfl rfl rfl ?_
      refine wq_gr (ci := 10) (j := 43) (q := 70) 374 d277_371 rfl rfl rfl rfl ?_
      refine wq_l 376 d277_374 rfl rfl rfl rfl ?_
      refine wq_l 378 d277_376 rfl rfl rfl rfl ?_
      refine wq_as 379 d277_378 rfl rfl rfl (bi) ?_
      refine wq_l 380 d277_379 rfl rfl rfl rfl ?_
      refine wq_gr (ci := 10) (j := 44) (q := 71) 383 d277_380 rfl rfl rfl rfl ?_
      refine wq_l 385 d277_383 rfl rfl rfl rfl ?_
      refine wq_l 387 d277_385 rfl rfl rfl rfl ?_
      refine wq_as 388 d277_387 rfl rfl rfl (bi) ?_
      refine wq_l 389 d277_388 rfl rfl rfl rfl ?_
      refine wq_gr (ci := 10) (j := 45) (q := 72) 392 d277_389 rfl rfl rfl rfl ?_
      refine wq_l 394 d277_392 rfl rfl rfl rfl ?_
      refine wq_l 396 d277_394 rfl rfl rfl rfl ?_
      refine wq_as 397 d277_396 rfl rfl rfl (bi) ?_
      refine wq_l 398 d277_397 rfl rfl rfl rfl ?_
      refine wq_gr (ci := 10) (j := 46) (q := 73) 401 d277_398 rfl rfl rfl rfl ?_
      refine wq_l 403 d277_401 rfl rfl rfl rfl ?_
      refine wq_l 405 d277_403 rfl rfl rfl rfl ?_
      refine wq_as 406 d277_405 rfl rfl rfl (bi) ?_
      refine wq_l 407 d277_406 rfl rfl rfl rfl ?_
      refine wq_gr (ci := 10) (j := 47) (q := 74) 410 d277_407 rfl rfl rfl rfl ?_
      refine wq_l 412 d277_410 rfl rfl rfl rfl ?_
      refine wq_l 414 d277_412 rfl rfl rfl rfl ?_
      refine wq_b 425 417 d277_414 rfl (by decide) rfl (fun c414 => ?_) (fun c414 => absurd (by decide) c414)
      refine wq_l 426 d277_425 rfl rfl rfl rfl ?_
      refine wq_gf (ci := 10) (j := 48) (f := 0) (v := .int (nI (y.2.2.2.1 + j * z))) 429 d277_426 rfl rfl rfl (congrArg Value.int (e48)) rfl ?_
      refine wq_as 430 d277_429 rfl rfl rfl (bi) ?_
      refine wq_l 431 d277_430 rfl rfl rfl rfl ?_
      refine wq_a 432 d277_431 rfl rfl ?_
      refine wq_gf (ci := 10) (j := 48) (f := 0) (v := .int (nI (y.2.2.2.1 + j * z))) 435 d277_432 rfl rfl rfl (congrArg Value.int (e48)) rfl ?_
      refine wq_l 437 d277_435 rfl rfl rfl rfl ?_
      refine wq_b 444 440 d277_437 rfl (by decide) rfl (fun c437 => ?_) (fun c437 => absurd (by decide) c437)
      refine wq_l 446 d277_444 rfl rfl rfl rfl ?_
      refine wq_a 447 d277_446 rfl rfl ?_
      refine wq_pf (ci := 10) (j := 48) 450 d277_447 rfl rfl rfl ⟨rfl, rfl⟩ rfl ?_
      refine wq_l 451 d277_450 rfl rfl rfl rfl ?_
      refine wq_gr (ci := 10) (j := 24) (q := 57) 454 d277_451 rfl rfl rfl rfl ?_
      refine wq_l 455 d277_454 rfl rfl rfl rfl ?_
      refine wq_l 456 d277_455 rfl rfl rfl rfl ?_
      refine wq_gr (ci := 10) (j := 47) (q := 74) 459 d277_456 rfl rfl rfl rfl ?_
      refine wq_l 461 d277_459 rfl rfl rfl rfl ?_
      refine wq_al 462 d277_461 rfl rfl rfl (bi) ?_
      refine wq_as 463 d277_462 rfl rfl rfl (bc) ?_
      refine wq_l 464 d277_463 rfl rfl rfl rfl ?_
      refine wq_gr (ci := 10) (j := 21) (q := 54) 467 d277_464 rfl rfl rfl rfl ?_
      refine wq_l 468 d277_467 rfl rfl rfl rfl ?_
      refine wq_al 469 d277_468 rfl rfl rfl (bc) ?_
      refine wq_s 470 d277_469 rfl rfl (Nat.le_of_ble_eq_true rfl) rfl rfl ?_
      refine wq_i 473 d277_470 rfl rfl rfl ?_
      refine wq_g 361 d277_473 (by decide) ?_
      rw [eic, bcc, show nI id + Int32.ofInt 1 = nI (id + 1) from nI_1 _, nx]
      refine ih (j + 1) _ _ (by omega) (fun w => ?_) ?_
      · rw [bcc] at en
        refine Eq.trans (b := σ.2.2 54 (a (i + 1 + j))) rfl (en.trans ?_)
        rw [if_pos (by have := hlast j w; omega)]
        rfl
      · rw [euj1]
        refine rr_sjn h jm hm hs il hid.symm hus (rr_pr (rr_pi (rr_pr (rr_pr (rr_pr (rr_pr (rr_pr h.2.2.1 (by decide)) (by decide)) (by decide)) (by decide)) (by decide)) (by decide)) (by decide)) ?_ ?_ ?_ (fun q q1 q2 => ?_) rfl rfl ?_ ?_ (fun k x k1 k2 k3 => ?_) ?_ ?_ ?_ ?_ ?_
        · rfl
        · rfl
        · rw [if_pos rfl]
          simp [pm_pr, pm_pi, upd_if, pm_nr0]
        · rw [pm_rne (by omega)]
          show (pm_pr _ 74 _).2.2 q = _
          rw [pm_rne (by omega), pm_rne (by omega), pm_rne (by omega), pm_rne (by omega), pm_rne (by omega)]
        · exact nI_ad _ _
        · rfl
        · rw [pm_rne (by omega)]
          show (pm_pr _ 74 _).2.2 k x = _
          rcases (show k = 70 ∨ k = 71 ∨ k = 72 ∨ k = 73 ∨ k = 74 by omega) with w | w | w | w | w <;> subst w <;> simp [pm_pr, upd_if, k3]
        · simp [pm_pr, pm_pi, upd_if, pm_nr0]
        · simp [pm_pr, pm_pi, upd_if, pm_nr0]
        · simp [pm_pr, pm_pi, upd_if, pm_nr0]
        · simp [pm_pr, pm_pi, upd_if, pm_nr0]
        · rw [if_pos rfl]
          simp [pm_pr, pm_pi, upd_if, pm_nr0]
    · have h0 := nI_toInt (n := 256 * ar + o) (by omega)
      have hne : ¬ at_ = -1 := fun z => by rw [z] at hat; rw [← hat] at h0; have h0 : (-1 : Int) = _ := h0; omega
      have euj : rl_uj at_ y.2.2.2.1 z j = y.2.2.2.1 := if_neg hne
      have euj1 : rl_uj at_ y.2.2.2.1 z (j + 1) = y.2.2.2.1 := if_neg hne
      have hat0 : ¬ at_ < 0 := fun z => by rw [i_lt, hat, h0] at z; have z : _ < (0 : Int) := z; omega
      rw [euj] at e48
      refine wq_l 363 d277_361 rfl rfl rfl rfl ?_
      refine wq_l 364 d277_363 rfl rfl rfl rfl ?_
      refine wq_gf (ci := 10) (j := 41) (f := 0) (v := .int (nI ((rv_L r).length + y.2.2.2.2.length))) 367 d277_364 rfl rfl rfl (congrArg Value.int (e41)) rfl ?_
      refine wq_b 476 370 d277_367 rfl (by decide) rfl (fun c367 => absurd c367 (by rw [i_le, eV, ei]; omega)) (fun c367 => ?_)
      refine wq_l 371 d277_370 rfl rfl rfl rfl ?_
      refine wq_gr (ci := 10) (j := 43) (q := 70) 374 d277_371 rfl rfl rfl rfl ?_
      refine wq_l 376 d277_374 rfl rfl rfl rfl ?_
      refine wq_l 378 d277_376 rfl rfl rfl rfl ?_
      refine wq_as 379 d277_378 rfl rfl rfl (bi) ?_
      refine wq_l 380 d277_379 rfl rfl rfl rfl ?_
      refine wq_gr (ci := 10) (j := 44) (q := 71) 383 d277_380 rfl rfl rfl rfl ?_
      refine wq_l 385 d277_383 rfl rfl rfl rfl ?_
      refine wq_l 387 d277_385 rfl rfl rfl rfl ?_
      refine wq_as 388 d277_387 rfl rfl rfl (bi) ?_
      refine wq_l 389 d277_388 rfl rfl rfl rfl ?_
      refine wq_gr (ci := 10) (j := 45) (q := 72) 392 d277_389 rfl rfl rfl rfl ?_
      refine wq_l 394 d277_392 rfl rfl rfl rfl ?_
      refine wq_l 396 d277_394 rfl rfl rfl rfl ?_
      refine wq_as 397 d277_396 rfl rfl rfl (bi) ?_
      refine wq_l 398 d277_397 rfl rfl rfl rfl ?_
      refine wq_gr (ci := 10) (j := 46) (q := 73) 401 d277_398 rfl rfl rfl rfl ?_
      refine wq_l 403 d277_401 rfl rfl rfl rfl ?_
      refine wq_l 405 d277_403 rfl rfl rfl rfl ?_
      refine wq_as 406 d277_405 rfl rfl rfl (bi) ?_
      refine wq_l 407 d277_406 rfl rfl rfl rfl ?_
      refine wq_gr (ci := 10) (j := 47) (q := 74) 410 d277_407 rfl rfl rfl rfl ?_
      refine wq_l 412 d277_410 rfl rfl rfl rfl ?_
      refine wq_l 414 d277_412 rfl rfl rfl rfl ?_
      refine wq_b 425 417 d277_414 rfl (by decide) rfl (fun c414 => absurd c414 (hat0)) (fun c414 => ?_)
      refine wq_l 419 d277_417 rfl rfl rfl rfl ?_
      refine wq_vs 422 [_] d277_419 rfl rfl m281 rfl (Nat.le_of_ble_eq_true rfl) rfl (re281a hat ha ho ?_)
      refine wq_g 429 d277_422 (by decide) ?_
      refine wq_as 430 d277_429 rfl rfl rfl (bi) ?_
      refine wq_l 431 d277_430 rfl rfl rfl rfl ?_
      refine wq_a 432 d277_431 rfl rfl ?_
      refine wq_gf (ci := 10) (j := 48) (f := 0) (v := .int (nI (y.2.2.2.1))) 435 d277_432 rfl rfl rfl (congrArg Value.int (e48)) rfl ?_
      refine wq_l 437 d277_435 rfl rfl rfl rfl ?_
      refine wq_b 444 440 d277_437 rfl (by decide) rfl (fun c437 => absurd c437 (hat0)) (fun c437 => ?_)
      refine wq_k 441 0 d277_440 (by decide) rfl ?_
      refine wq_g 446 d277_441 (by decide) ?_
      refine wq_a 447 d277_446 rfl rfl ?_
      refine wq_pf (ci := 10) (j := 48) 450 d277_447 rfl rfl rfl ⟨rfl, rfl⟩ rfl ?_
      refine wq_l 451 d277_450 rfl rfl rfl rfl ?_
      refine wq_gr (ci := 10) (j := 24) (q := 57) 454 d277_451 rfl rfl rfl rfl ?_
      refine wq_l 455 d277_454 rfl rfl rfl rfl ?_
      refine wq_l 456 d277_455 rfl rfl rfl rfl ?_
      refine wq_gr (ci := 10) (j := 47) (q := 74) 459 d277_456 rfl rfl rfl rfl ?_
      refine wq_l 461 d277_459 rfl rfl rfl rfl ?_
      refine wq_al 462 d277_461 rfl rfl rfl (bi) ?_
      refine wq_as 463 d277_462 rfl rfl rfl (bc) ?_
      refine wq_l 464 d277_463 rfl rfl rfl rfl ?_
      refine wq_gr (ci := 10) (j := 21) (q := 54) 467 d277_464 rfl rfl rfl rfl ?_
      refine wq_l 468 d277_467 rfl rfl rfl rfl ?_
      refine wq_al 469 d277_468 rfl rfl rfl (bc) ?_
      refine wq_s 470 d277_469 rfl rfl (Nat.le_of_ble_eq_true rfl) rfl rfl ?_
      refine wq_i 473 d277_470 rfl rfl rfl ?_
      refine wq_g 361 d277_473 (by decide) ?_
      rw [eic, bcc, show nI id + Int32.ofInt 1 = nI (id + 1) from nI_1 _, nx]
      refine ih (j + 1) _ _ (by omega) (fun w => ?_) ?_
      · rw [bcc] at en
        refine Eq.trans (b := σ.2.2 54 (a (i + 1 + j))) rfl (en.trans ?_)
        rw [if_pos (by have := hlast j w; omega)]
        rfl
      · rw [euj1]
        refine rr_sjn h jm hm hs il hid.symm hus (rr_pr (rr_pi (rr_pr (rr_pr (rr_pr (rr_pr (rr_pr h.2.2.1 (by decide)) (by decide)) (by decide)) (by decide)) (by decide)) (by decide)) (by decide)) ?_ ?_ ?_ (fun q q1 q2 => ?_) rfl rfl ?_ ?_ (fun k x k1 k2 k3 => ?_) ?_ ?_ ?_ ?_ ?_
        · rfl
        · rfl
        · rw [if_neg hne]
          simp [pm_pr, pm_pi, upd_if, pm_nr0]
        · rw [pm_rne (by omega)]
          show (pm_pr _ 74 _).2.2 q = _
          rw [pm_rne (by omega), pm_rne (by omega), pm_rne (by omega), pm_rne (by omega), pm_rne (by omega)]
        · exact Int32.add_zero _
        · rfl
        · rw [pm_rne (by omega)]
          show (pm_pr _ 74 _).2.2 k x = _
          rcases (show k = 70 ∨ k = 71 ∨ k = 72 ∨ k = 73 ∨ k = 74 by omega) with w | w | w | w | w <;> subst w <;> simp [pm_pr, upd_if, k3]
        · simp [pm_pr, pm_pi, upd_if, pm_nr0]
        · simp [pm_pr, pm_pi, upd_if, pm_nr0]
        · simp [pm_pr, pm_pi, upd_if, pm_nr0]
        · simp [pm_pr, pm_pi, upd_if, pm_nr0]
        · rw [if_neg hne]
          simp [pm_pr, pm_pi, upd_if, pm_nr0]
