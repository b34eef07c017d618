theorem d310_0 : decode prog_14_method_98_code 0 = .ok (.aload_n 0, 1) := by decide +kernel
theorem d310_1 : decode prog_14_method_98_code 1 = .ok (.getfield 50, 3) := by decide +kernel
theorem d310_4 : decode prog_14_method_98_code 4 = .ok (.aload_n 0, 1) := by decide +kernel
theorem d310_5 : decode prog_14_method_98_code 5 = .ok (.getfield 38, 3) := by decide +kernel
theorem d310_8 : decode prog_14_method_98_code 8 = .ok (.iload_n 1, 1) := by decide +kernel
theorem d310_9 : decode prog_14_method_98_code 9 = .ok (.iaload, 1) := by decide +kernel
theorem d310_10 : decode prog_14_method_98_code 10 = .ok (.iaload, 1) := by decide +kernel
theorem d310_11 : decode prog_14_method_98_code 11 = .ok (.istore_n 3, 1) := by decide +kernel
theorem d310_12 : decode prog_14_method_98_code 12 = .ok (.aload_n 0, 1) := by decide +kernel
theorem d310_13 : decode prog_14_method_98_code 13 = .ok (.getfield 44, 3) := by decide +kernel
theorem d310_16 : decode prog_14_method_98_code 16 = .ok (.aload_n 0, 1) := by decide +kernel
theorem d310_17 : decode prog_14_method_98_code 17 = .ok (.getfield 38, 3) := by decide +kernel
theorem d310_20 : decode prog_14_method_98_code 20 = .ok (.iload_n 1, 1) := by decide +kernel
theorem d310_21 : decode prog_14_method_98_code 21 = .ok (.iaload, 1) := by decide +kernel
theorem d310_22 : decode prog_14_method_98_code 22 = .ok (.iaload, 1) := by decide +kernel
theorem d310_23 : decode prog_14_method_98_code 23 = .ok (.ifCond .lt 22, 3) := by decide +kernel
theorem d310_26 : decode prog_14_method_98_code 26 = .ok (.aload_n 0, 1) := by decide +kernel
theorem d310_27 : decode prog_14_method_98_code 27 = .ok (.getfield 50, 3) := by decide +kernel
theorem d310_30 : decode prog_14_method_98_code 30 = .ok (.aload_n 0, 1) := by decide +kernel
theorem d310_31 : decode prog_14_method_98_code 31 = .ok (.getfield 44, 3) := by decide +kernel
theorem d310_34 : decode prog_14_method_98_code 34 = .ok (.aload_n 0, 1) := by decide +kernel
theorem d310_35 : decode prog_14_method_98_code 35 = .ok (.getfield 38, 3) := by decide +kernel
theorem d310_38 : decode prog_14_method_98_code 38 = .ok (.iload_n 1, 1) := by decide +kernel
theorem d310_39 : decode prog_14_method_98_code 39 = .ok (.iaload, 1) := by decide +kernel
theorem d310_40 : decode prog_14_method_98_code 40 = .ok (.iaload, 1) := by decide +kernel
theorem d310_41 : decode prog_14_method_98_code 41 = .ok (.iaload, 1) := by decide +kernel
theorem d310_42 : decode prog_14_method_98_code 42 = .ok (.goto 4, 3) := by decide +kernel
theorem d310_45 : decode prog_14_method_98_code 45 = .ok (.iconst (-1), 1) := by decide +kernel
theorem d310_46 : decode prog_14_method_98_code 46 = .ok (.istore 4, 2) := by decide +kernel
theorem d310_48 : decode prog_14_method_98_code 48 = .ok (.iload 4, 2) := by decide +kernel
theorem d310_50 : decode prog_14_method_98_code 50 = .ok (.ifCond .lt 36, 3) := by decide +kernel
theorem d310_53 : decode prog_14_method_98_code 53 = .ok (.aload_n 0, 1) := by decide +kernel
theorem d310_54 : decode prog_14_method_98_code 54 = .ok (.getfield 44, 3) := by decide +kernel
theorem d310_57 : decode prog_14_method_98_code 57 = .ok (.aload_n 0, 1) := by decide +kernel
theorem d310_58 : decode prog_14_method_98_code 58 = .ok (.getfield 44, 3) := by decide +kernel
theorem d310_61 : decode prog_14_method_98_code 61 = .ok (.aload_n 0, 1) := by decide +kernel
theorem d310_62 : decode prog_14_method_98_code 62 = .ok (.getfield 38, 3) := by decide +kernel
theorem d310_65 : decode prog_14_method_98_code 65 = .ok (.iload_n 1, 1) := by decide +kernel
theorem d310_66 : decode prog_14_method_98_code 66 = .ok (.iaload, 1) := by decide +kernel
theorem d310_67 : decode prog_14_method_98_code 67 = .ok (.iaload, 1) := by decide +kernel
theorem d310_68 : decode prog_14_method_98_code 68 = .ok (.iaload, 1) := by decide +kernel
theorem d310_69 : decode prog_14_method_98_code 69 = .ok (.ifCond .lt 17, 3) := by decide +kernel
theorem d310_72 : decode prog_14_method_98_code 72 = .ok (.aload_n 0, 1) := by decide +kernel
theorem d310_73 : decode prog_14_method_98_code 73 = .ok (.getfield 50, 3) := by decide +kernel
theorem d310_76 : decode prog_14_method_98_code 76 = .ok (.aload_n 0, 1) := by decide +kernel
theorem d310_77 : decode prog_14_method_98_code 77 = .ok (.getfield 41, 3) := by decide +kernel
theorem d310_80 : decode prog_14_method_98_code 80 = .ok (.iload_n 1, 1) := by decide +kernel
theorem d310_81 : decode prog_14_method_98_code 81 = .ok (.iaload, 1) := by decide +kernel
theorem d310_82 : decode prog_14_method_98_code 82 = .ok (.iaload, 1) := by decide +kernel
theorem d310_83 : decode prog_14_method_98_code 83 = .ok (.goto 4, 3) := by decide +kernel
theorem d310_86 : decode prog_14_method_98_code 86 = .ok (.iconst (-1), 1) := by decide +kernel
theorem d310_87 : decode prog_14_method_98_code 87 = .ok (.istore 5, 2) := by decide +kernel
theorem d310_89 : decode prog_14_method_98_code 89 = .ok (.iconst (-1), 1) := by decide +kernel
theorem d310_90 : decode prog_14_method_98_code 90 = .ok (.istore 6, 2) := by decide +kernel
theorem d310_92 : decode prog_14_method_98_code 92 = .ok (.iload_n 2, 1) := by decide +kernel
theorem d310_93 : decode prog_14_method_98_code 93 = .ok (.bipush 107, 2) := by decide +kernel
theorem d310_95 : decode prog_14_method_98_code 95 = .ok (.if_icmp .eq 9, 3) := by decide +kernel
theorem d310_98 : decode prog_14_method_98_code 98 = .ok (.iload_n 2, 1) := by decide +kernel
theorem d310_99 : decode prog_14_method_98_code 99 = .ok (.bipush 108, 2) := by decide +kernel
theorem d310_101 : decode prog_14_method_98_code 101 = .ok (.if_icmp .ne 12, 3) := by decide +kernel
theorem d310_104 : decode prog_14_method_98_code 104 = .ok (.iload_n 2, 1) := by decide +kernel
theorem d310_105 : decode prog_14_method_98_code 105 = .ok (.bipush 106, 2) := by decide +kernel
theorem d310_107 : decode prog_14_method_98_code 107 = .ok (.isub, 1) := by decide +kernel
theorem d310_108 : decode prog_14_method_98_code 108 = .ok (.istore 6, 2) := by decide +kernel
theorem d310_110 : decode prog_14_method_98_code 110 = .ok (.goto 181, 3) := by decide +kernel
theorem d310_113 : decode prog_14_method_98_code 113 = .ok (.iload_n 2, 1) := by decide +kernel
theorem d310_114 : decode prog_14_method_98_code 114 = .ok (.bipush 109, 2) := by decide +kernel
theorem d310_116 : decode prog_14_method_98_code 116 = .ok (.if_icmp .ne 17, 3) := by decide +kernel
theorem d310_119 : decode prog_14_method_98_code 119 = .ok (.iload_n 3, 1) := by decide +kernel
theorem d310_120 : decode prog_14_method_98_code 120 = .ok (.ifCond .le 7, 3) := by decide +kernel
theorem d310_123 : decode prog_14_method_98_code 123 = .ok (.iconst 0, 1) := by decide +kernel
theorem d310_124 : decode prog_14_method_98_code 124 = .ok (.goto 4, 3) := by decide +kernel
theorem d310_127 : decode prog_14_method_98_code 127 = .ok (.iconst (-1), 1) := by decide +kernel
theorem d310_128 : decode prog_14_method_98_code 128 = .ok (.istore 6, 2) := by decide +kernel
theorem d310_130 : decode prog_14_method_98_code 130 = .ok (.goto 161, 3) := by decide +kernel
theorem d310_133 : decode prog_14_method_98_code 133 = .ok (.iload_n 2, 1) := by decide +kernel
theorem d310_134 : decode prog_14_method_98_code 134 = .ok (.bipush 104, 2) := by decide +kernel
theorem d310_136 : decode prog_14_method_98_code 136 = .ok (.if_icmp .ne 43, 3) := by decide +kernel
theorem d310_139 : decode prog_14_method_98_code 139 = .ok (.iload_n 3, 1) := by decide +kernel
theorem d310_140 : decode prog_14_method_98_code 140 = .ok (.ifCond .ne 33, 3) := by decide +kernel
theorem d310_143 : decode prog_14_method_98_code 143 = .ok (.iload 4, 2) := by decide +kernel
theorem d310_145 : decode prog_14_method_98_code 145 = .ok (.ifCond .ne 8, 3) := by decide +kernel
theorem d310_148 : decode prog_14_method_98_code 148 = .ok (.iload 5, 2) := by decide +kernel
theorem d310_150 : decode prog_14_method_98_code 150 = .ok (.ifCond .eq 13, 3) := by decide +kernel
theorem d310_153 : decode prog_14_method_98_code 153 = .ok (.iload 4, 2) := by decide +kernel
theorem d310_155 : decode prog_14_method_98_code 155 = .ok (.ifCond .le 18, 3) := by decide +kernel
theorem d310_158 : decode prog_14_method_98_code 158 = .ok (.iload 5, 2) := by decide +kernel
theorem d310_160 : decode prog_14_method_98_code 160 = .ok (.ifCond .le 13, 3) := by decide +kernel
theorem d310_163 : decode prog_14_method_98_code 163 = .ok (.iload 4, 2) := by decide +kernel
theorem d310_165 : decode prog_14_method_98_code 165 = .ok (.iload 5, 2) := by decide +kernel
theorem d310_167 : decode prog_14_method_98_code 167 = .ok (.invokestatic 605, 3) := by decide +kernel
theorem d310_170 : decode prog_14_method_98_code 170 = .ok (.goto 4, 3) := by decide +kernel
theorem d310_173 : decode prog_14_method_98_code 173 = .ok (.iconst (-1), 1) := by decide +kernel
theorem d310_174 : decode prog_14_method_98_code 174 = .ok (.istore 6, 2) := by decide +kernel
theorem d310_176 : decode prog_14_method_98_code 176 = .ok (.goto 115, 3) := by decide +kernel
theorem d310_179 : decode prog_14_method_98_code 179 = .ok (.iload_n 2, 1) := by decide +kernel
theorem d310_180 : decode prog_14_method_98_code 180 = .ok (.bipush 100, 2) := by decide +kernel
theorem d310_182 : decode prog_14_method_98_code 182 = .ok (.if_icmp .ne 17, 3) := by decide +kernel
theorem d310_185 : decode prog_14_method_98_code 185 = .ok (.iload_n 3, 1) := by decide +kernel
theorem d310_186 : decode prog_14_method_98_code 186 = .ok (.ifCond .le 7, 3) := by decide +kernel
theorem d310_189 : decode prog_14_method_98_code 189 = .ok (.iload_n 3, 1) := by decide +kernel
theorem d310_190 : decode prog_14_method_98_code 190 = .ok (.goto 4, 3) := by decide +kernel
theorem d310_193 : decode prog_14_method_98_code 193 = .ok (.iconst (-1), 1) := by decide +kernel
theorem d310_194 : decode prog_14_method_98_code 194 = .ok (.istore 6, 2) := by decide +kernel
theorem d310_196 : decode prog_14_method_98_code 196 = .ok (.goto 95, 3) := by decide +kernel
theorem d310_199 : decode prog_14_method_98_code 199 = .ok (.iload_n 2, 1) := by decide +kernel
theorem d310_200 : decode prog_14_method_98_code 200 = .ok (.bipush 105, 2) := by decide +kernel
theorem d310_202 : decode prog_14_method_98_code 202 = .ok (.if_icmp .eq 9, 3) := by decide +kernel
theorem d310_205 : decode prog_14_method_98_code 205 = .ok (.iload_n 2, 1) := by decide +kernel
theorem d310_206 : decode prog_14_method_98_code 206 = .ok (.bipush 106, 2) := by decide +kernel
theorem d310_208 : decode prog_14_method_98_code 208 = .ok (.if_icmp .ne 22, 3) := by decide +kernel
theorem d310_211 : decode prog_14_method_98_code 211 = .ok (.iload_n 3, 1) := by decide +kernel
theorem d310_212 : decode prog_14_method_98_code 212 = .ok (.ifCond .le 12, 3) := by decide +kernel
theorem d310_215 : decode prog_14_method_98_code 215 = .ok (.iload 4, 2) := by decide +kernel
theorem d310_217 : decode prog_14_method_98_code 217 = .ok (.ifCond .le 7, 3) := by decide +kernel
theorem d310_220 : decode prog_14_method_98_code 220 = .ok (.iload_n 3, 1) := by decide +kernel
theorem d310_221 : decode prog_14_method_98_code 221 = .ok (.goto 4, 3) := by decide +kernel
theorem d310_224 : decode prog_14_method_98_code 224 = .ok (.iconst (-1), 1) := by decide +kernel
theorem d310_225 : decode prog_14_method_98_code 225 = .ok (.istore 6, 2) := by decide +kernel
theorem d310_227 : decode prog_14_method_98_code 227 = .ok (.goto 64, 3) := by decide +kernel
theorem d310_230 : decode prog_14_method_98_code 230 = .ok (.iload_n 2, 1) := by decide +kernel
theorem d310_231 : decode prog_14_method_98_code 231 = .ok (.bipush 103, 2) := by decide +kernel
theorem d310_233 : decode prog_14_method_98_code 233 = .ok (.if_icmp .ne 37, 3) := by decide +kernel
theorem d310_236 : decode prog_14_method_98_code 236 = .ok (.iload_n 3, 1) := by decide +kernel
theorem d310_237 : decode prog_14_method_98_code 237 = .ok (.ifCond .le 27, 3) := by decide +kernel
theorem d310_240 : decode prog_14_method_98_code 240 = .ok (.iload 4, 2) := by decide +kernel
theorem d310_242 : decode prog_14_method_98_code 242 = .ok (.ifCond .le 22, 3) := by decide +kernel
theorem d310_245 : decode prog_14_method_98_code 245 = .ok (.iload 5, 2) := by decide +kernel
theorem d310_247 : decode prog_14_method_98_code 247 = .ok (.ifCond .le 17, 3) := by decide +kernel
theorem d310_250 : decode prog_14_method_98_code 250 = .ok (.iload_n 3, 1) := by decide +kernel
theorem d310_251 : decode prog_14_method_98_code 251 = .ok (.iload 4, 2) := by decide +kernel
theorem d310_253 : decode prog_14_method_98_code 253 = .ok (.iload 5, 2) := by decide +kernel
theorem d310_255 : decode prog_14_method_98_code 255 = .ok (.invokestatic 605, 3) := by decide +kernel
theorem d310_258 : decode prog_14_method_98_code 258 = .ok (.invokestatic 605, 3) := by decide +kernel
theorem d310_261 : decode prog_14_method_98_code 261 = .ok (.goto 4, 3) := by decide +kernel
theorem d310_264 : decode prog_14_method_98_code 264 = .ok (.iconst (-1), 1) := by decide +kernel
theorem d310_265 : decode prog_14_method_98_code 265 = .ok (.istore 6, 2) := by decide +kernel
theorem d310_267 : decode prog_14_method_98_code 267 = .ok (.goto 24, 3) := by decide +kernel
theorem d310_270 : decode prog_14_method_98_code 270 = .ok (.iload_n 3, 1) := by decide +kernel
theorem d310_271 : decode prog_14_method_98_code 271 = .ok (.ifCond .le 17, 3) := by decide +kernel
theorem d310_274 : decode prog_14_method_98_code 274 = .ok (.iload 4, 2) := by decide +kernel
theorem d310_276 : decode prog_14_method_98_code 276 = .ok (.ifCond .le 12, 3) := by decide +kernel
theorem d310_279 : decode prog_14_method_98_code 279 = .ok (.iload_n 3, 1) := by decide +kernel
theorem d310_280 : decode prog_14_method_98_code 280 = .ok (.iload 4, 2) := by decide +kernel
theorem d310_282 : decode prog_14_method_98_code 282 = .ok (.invokestatic 605, 3) := by decide +kernel
theorem d310_285 : decode prog_14_method_98_code 285 = .ok (.goto 4, 3) := by decide +kernel
theorem d310_288 : decode prog_14_method_98_code 288 = .ok (.iconst (-1), 1) := by decide +kernel
theorem d310_289 : decode prog_14_method_98_code 289 = .ok (.istore 6, 2) := by decide +kernel
theorem d310_291 : decode prog_14_method_98_code 291 = .ok (.aload_n 0, 1) := by decide +kernel
theorem d310_292 : decode prog_14_method_98_code 292 = .ok (.getfield 50, 3) := by decide +kernel
theorem d310_295 : decode prog_14_method_98_code 295 = .ok (.iload_n 1, 1) := by decide +kernel
theorem d310_296 : decode prog_14_method_98_code 296 = .ok (.iload 6, 2) := by decide +kernel
theorem d310_298 : decode prog_14_method_98_code 298 = .ok (.iastore, 1) := by decide +kernel
theorem d310_299 : decode prog_14_method_98_code 299 = .ok (.iload 6, 2) := by decide +kernel
theorem d310_301 : decode prog_14_method_98_code 301 = .ok (.ifCond .ge 8, 3) := by decide +kernel
theorem d310_304 : decode prog_14_method_98_code 304 = .ok (.bipush 26, 2) := by decide +kernel
theorem d310_306 : decode prog_14_method_98_code 306 = .ok (.goto 4, 3) := by decide +kernel
theorem d310_309 : decode prog_14_method_98_code 309 = .ok (.iconst 0, 1) := by decide +kernel
theorem d310_310 : decode prog_14_method_98_code 310 = .ok (.ireturn, 1) := by decide +kernel
theorem m310 : pm_m 310 = some (⟨"TypeRulesModel", "standardCall", "(II)I"⟩, prog_14_method_98_code, 7, (some FieldType.int), 10, 2, 11) := rfl
theorem re307 {d : Nat} {l : List pg_N} {a : Nat → Nat} {R : Int32 → Int32 → Prop} {σ0 σ : pm_S} {fl : Bool} {u : Nat} {A : rl_A} {Q : Option Value → pm_S → Prop} {NN i : Nat} (hG : lg_G l NN) (h : rr_I l a R σ0 σ fl u A) (hp : pv_B A.1) (hB : A.1 ≠ []) (hs : rl_setl A) (hi : i + 1 < l.length) (hz : i + 1 < i + rl_z l i) (hk : rp_nk (rl_k l i) = true) (hk1 : rp_nk (rl_k l (i + 1)) = true) (hQ : rr_Q l a R σ0 fl u (if rl_srt A (rl_v l i) 2 ≠ 0 then (rl_srt A (rl_v l i) 2, A) else match rl_pin A.1 (rl_var A (rl_v l i)).2.2.1.toNatClampNeg (rl_v l (i + 1)) with | none => (23, A) | some (p, t, c) => if p ≠ 2 then (23, A) else (0, rl_ce (rl_ty A i t) i (nI ((rl_var A (rl_v l i)).2.2.2.2.2 + c)))) Q) : pm_call pm_Y0 (d + 4) 307 [.ref 10, .int (nI (a i))] σ Q := by
  have i0 : i < l.length := by omega
  have hR := rt_R (rr_T h) i0 hk
  have hR1 := rt_R (rr_T h) hi hk1
  have bi := rt_b (rr_T h) i0
  have em := rt_m (rr_T h) i0
  have em1 := rt_m (rr_T h) hi
  have hB9 := h.2.2.2.2.1.1
  have sl := rl_srtl (A := A) (x := rl_v l i) (s := 2)
  have es := nI_toInt (n := rl_srt A (rl_v l i) 2) (by omega)
  have ef := (rt_f (rr_T h) hG i0).trans (if_pos hz)
  by_cases e0 : rl_srt A (rl_v l i) 2 = 0
  · rw [if_neg (fun z => z e0)] at hQ
    refine wq_m m307 (Nat.le_of_ble_eq_true rfl) (by decide) rfl ?_
    refine wq_l 1 d307_0 rfl rfl rfl rfl ?_
    refine wq_l 2 d307_1 rfl rfl rfl rfl ?_
    refine wq_gr (ci := 10) (j := 18) (q := 51) 5 d307_2 rfl rfl rfl rfl ?_
    refine wq_l 6 d307_5 rfl rfl rfl rfl ?_
    refine wq_al 7 d307_6 rfl rfl rfl (bi) ?_
    rw [em]
    refine wq_k 8 2 d307_7 (by decide) rfl ?_
    refine wq_v 11 [_, _] d307_8 rfl rfl m292 rfl rfl (Nat.le_of_ble_eq_true rfl) rfl (re292 h hp hB hs (s := 2) (by decide) hR ?_)
    refine wq_s 12 d307_11 rfl rfl (Nat.le_of_ble_eq_true rfl) rfl rfl ?_
    refine wq_l 13 d307_12 rfl rfl rfl rfl ?_
    refine wq_b 18 16 d307_13 rfl (by decide) rfl (fun c13 => ?_) (fun c13 => absurd (by rw [e0]; decide) c13)
    refine wq_l 19 d307_18 rfl rfl rfl rfl ?_
    refine wq_l 20 d307_19 rfl rfl rfl rfl ?_
    refine wq_gr (ci := 10) (j := 18) (q := 51) 23 d307_20 rfl rfl rfl rfl ?_
    refine wq_l 24 d307_23 rfl rfl rfl rfl ?_
    refine wq_al 25 d307_24 rfl rfl rfl (bi) ?_
    rw [em]
    refine wq_v 28 [_] d307_25 rfl rfl m283 rfl rfl (Nat.le_of_ble_eq_true rfl) rfl (re283 h hp hB hR (fun e2 => ?_) (fun i2 v2 e2 f2 g2 => ?_))
    · -- fork 25
      rw [rl_srn e2] at e0
      exact absurd e0 (by decide)
      -- none
    · -- fork 25
      have m2 := rl_find_m e2
      have s2 := ((h.2.2.2.2.2.1.2.2) i2 v2 f2).2.1 (hs v2 m2)
      have ei := nI_toInt (n := i2) (by omega)
      have ec := nI_clamp (n := i2) (by omega)
      have v1 : v2.2.1 = 2 := Classical.byContradiction (fun z => by rw [rl_sr1 e2 z] at e0; exact absurd e0 (by decide))
      obtain ⟨q, q1, q2, q3⟩ := ((pv_cur hp hB).2.2.2.2.1 v2 m2).2.2.2.1 v1
      have q9 := q1
      rw [List.length_tail] at q9
      have qc : (nI q).toNatClampNeg = q := nI_clamp (by omega)
      have tv : rv_t v2 = rv_q q := by unfold rv_t; rw [if_pos v1, q2, qc]
      rw [rl_vrs e2, q2, qc] at hQ
      refine wq_s 29 d307_28 rfl rfl (Nat.le_of_ble_eq_true rfl) rfl rfl ?_
      refine wq_l 30 d307_29 rfl rfl rfl rfl ?_
      refine wq_l 31 d307_30 rfl rfl rfl rfl ?_
      refine wq_l 32 d307_31 rfl rfl rfl rfl ?_
      refine wq_gr (ci := 10) (j := 18) (q := 51) 35 d307_32 rfl rfl rfl rfl ?_
      refine wq_l 36 d307_35 rfl rfl rfl rfl ?_
      refine wq_gr (ci := 10) (j := 19) (q := 52) 39 d307_36 rfl rfl rfl rfl ?_
      refine wq_l 40 d307_39 rfl rfl rfl rfl ?_
      refine wq_al 41 d307_40 rfl rfl rfl (bi) ?_
      rw [ef]
      refine wq_al 42 d307_41 rfl rfl rfl (rt_b (rr_T h) hi) ?_
      rw [em1]
      refine wq_v 45 [_, _] d307_42 rfl rfl m294 rfl rfl (Nat.le_of_ble_eq_true rfl) rfl (re294 h hp f2 g2 v1 q2 q1 hR1 ?_)
      cases hpn : rl_pin A.1 q (rl_v l (i + 1)) with
      | none =>
        rw [hpn] at hQ
        have hQ : rr_Q l a R σ0 fl u (23, A) Q := hQ
        show pm_WP _ _ _ _ _ _ _ _ [.int (-1)] _
        refine wq_s 47 d307_45 rfl rfl (Nat.le_of_ble_eq_true rfl) rfl rfl ?_
        refine wq_l 49 d307_47 rfl rfl rfl rfl ?_
        refine wq_b 64 52 d307_49 rfl (by decide) rfl (fun c49 => ?_) (fun c49 => absurd (by decide) c49)
        refine wq_k 66 23 d307_64 (by decide) rfl ?_
        refine wq_ri d307_66 (rfl) ?_
        exact rr_q1 (k := 23) hQ (rr_Fi h) rfl (by decide)
      | some w =>
        obtain ⟨p, t, c⟩ := w
        rw [hpn] at hQ
        have hQ : rr_Q l a R σ0 fl u (if p ≠ 2 then (23, A) else (0, rl_ce (rl_ty A i t) i (nI (v2.2.2.2.2.2 + c)))) Q := hQ
        by_cases p0 : p = 0
        · rw [if_pos (by omega)] at hQ
          rw [show rv_P q (some (p, t, c)) = -1 from if_pos p0]
          refine wq_s 47 d307_45 rfl rfl (Nat.le_of_ble_eq_true rfl) rfl rfl ?_
          refine wq_l 49 d307_47 rfl rfl rfl rfl ?_
          refine wq_b 64 52 d307_49 rfl (by decide) rfl (fun c49 => ?_) (fun c49 => absurd (by decide) c49)
          refine wq_k 66 23 d307_64 (by decide) rfl ?_
          refine wq_ri d307_66 (rfl) ?_
          exact rr_q1 (k := 23) hQ (rr_Fi h) rfl (by decide)
        · obtain ⟨p2, tt, cc, cq⟩ := rv_pin hp q1 hpn p0
          obtain ⟨N, N1, N2, N3, N4, N5⟩ := rv_Pd (q := q) p0 p2 tt cc cq
          rw [N1]
          by_cases p1 : p = 1
          · rw [if_pos (by omega)] at hQ
            refine wq_s 47 d307_45 rfl rfl (Nat.le_of_ble_eq_true rfl) rfl rfl ?_
            refine wq_l 49 d307_47 rfl rfl rfl rfl ?_
            refine wq_b 64 52 d307_49 rfl (by decide) rfl (fun c49 => absurd c49 (by rw [i_lt, nI_toInt (by omega)]; show ¬ (N : Int) < 0; omega)) (fun c49 => ?_)
            refine wq_l 54 d307_52 rfl rfl rfl rfl ?_
            refine wq_k 56 100 d307_54 (by decide) rfl ?_
            refine wq_dv 57 d307_56 rfl rfl (by decide) ?_
            refine wq_k 59 10 d307_57 (by decide) rfl ?_
            refine wq_dv 60 d307_59 rfl rfl (by decide) ?_
            rw [show nI N / 100 - nI N / 100 / 10 * 10 = nI (N / 100 % 10) by rw [show nI N / 100 = nI (N / 100) from nI_dv (b := 100) (by omega) (by decide)]; exact nI_rm (b := 10) (by omega) (by decide), N3]
            refine wq_k 61 1 d307_60 (by decide) rfl ?_
            refine wq_b 67 64 d307_61 rfl (by decide) rfl (fun c61 => absurd c61 (by rw [if_pos p1]; decide)) (fun c61 => ?_)
            refine wq_k 66 23 d307_64 (by decide) rfl ?_
            refine wq_ri d307_66 (rfl) ?_
            exact rr_q1 (k := 23) hQ (rr_Fi h) rfl (by decide)
          · rw [if_neg (show ¬ p ≠ 2 by omega)] at hQ
            refine wq_s 47 d307_45 rfl rfl (Nat.le_of_ble_eq_true rfl) rfl rfl ?_
            refine wq_l 49 d307_47 rfl rfl rfl rfl ?_
            refine wq_b 64 52 d307_49 rfl (by decide) rfl (fun c49 => absurd c49 (by rw [i_lt, nI_toInt (by omega)]; show ¬ (N : Int) < 0; omega)) (fun c49 => ?_)
            refine wq_l 54 d307_52 rfl rfl rfl rfl ?_
            refine wq_k 56 100 d307_54 (by decide) rfl ?_
            refine wq_dv 57 d307_56 rfl rfl (by decide) ?_
            refine wq_k 59 10 d307_57 (by decide) rfl ?_
            refine wq_dv 60 d307_59 rfl rfl (by decide) ?_
            rw [show nI N / 100 - nI N / 100 / 10 * 10 = nI (N / 100 % 10) by rw [show nI N / 100 = nI (N / 100) from nI_dv (b := 100) (by omega) (by decide)]; exact nI_rm (b := 10) (by omega) (by decide), N3]
            refine wq_k 61 1 d307_60 (by decide) rfl ?_
            refine wq_b 67 64 d307_61 rfl (by decide) rfl (fun c61 => ?_) (fun c61 => absurd (by rw [if_neg p1]; decide) c61)
            refine wq_l 68 d307_67 rfl rfl rfl rfl ?_
            refine wq_gr (ci := 10) (j := 23) (q := 56) 71 d307_68 rfl rfl rfl rfl ?_
            refine wq_l 72 d307_71 rfl rfl rfl rfl ?_
            refine wq_l 74 d307_72 rfl rfl rfl rfl ?_
            refine wq_k 76 10 d307_74 (by decide) rfl ?_
            refine wq_dv 77 d307_76 rfl rfl (by decide) ?_
            refine wq_k 79 10 d307_77 (by decide) rfl ?_
            refine wq_dv 80 d307_79 rfl rfl (by decide) ?_
            rw [show nI N / 10 - nI N / 10 / 10 * 10 = nI (N / 10 % 10) by rw [show nI N / 10 = nI (N / 10) from nI_dv (b := 10) (by omega) (by decide)]; exact nI_rm (b := 10) (by omega) (by decide), N4]
            refine wq_as 81 d307_80 rfl rfl rfl (bi) ?_
            have h81 := rr_ty h i0 t
            refine wq_l 82 d307_81 rfl rfl rfl rfl ?_
            refine wq_gr (ci := 10) (j := 24) (q := 57) 85 d307_82 rfl rfl rfl rfl ?_
            refine wq_l 86 d307_85 rfl rfl rfl rfl ?_
            refine wq_l 87 d307_86 rfl rfl rfl rfl ?_
            refine wq_gr (ci := 10) (j := 47) (q := 74) 90 d307_87 rfl rfl rfl rfl ?_
            refine wq_l 91 d307_90 rfl rfl rfl rfl ?_
            refine wq_al 92 d307_91 rfl rfl rfl (vp_in_iff.mpr (by rw [ei]; omega)) ?_
            rw [pm_rne (by decide), ec, s2.2.2.2.2]
            refine wq_l 94 d307_92 rfl rfl rfl rfl ?_
            refine wq_l 95 d307_94 rfl rfl rfl rfl ?_
            refine wq_gr (ci := 10) (j := 44) (q := 71) 98 d307_95 rfl rfl rfl rfl ?_
            refine wq_l 99 d307_98 rfl rfl rfl rfl ?_
            refine wq_al 100 d307_99 rfl rfl rfl (vp_in_iff.mpr (by rw [ei]; omega)) ?_
            rw [pm_rne (by decide), ec, s2.2.1, tv]
            refine wq_vs 103 [_, _] d307_100 rfl rfl m296 rfl (Nat.le_of_ble_eq_true rfl) rfl (re296 N2 (by omega) N5 ?_)
            refine wq_a 104 d307_103 rfl rfl ?_
            rw [nI_ad]
            refine wq_as 105 d307_104 rfl rfl rfl (bi) ?_
            have h105 := rr_ce h81 i0 (nI (v2.2.2.2.2.2 + c))
            refine wq_k 106 0 d307_105 (by decide) rfl ?_
            refine wq_ri d307_106 (rfl) ?_
            exact rr_q0 hQ h105 rfl
  · rw [if_pos e0] at hQ
    refine wq_m m307 (Nat.le_of_ble_eq_true rfl) (by decide) rfl ?_
    refine wq_l 1 d307_0 rfl rfl rfl rfl ?_
    refine wq_l 2 d307_1 rfl rfl rfl rfl ?_
    refine wq_gr (ci := 10) (j := 18) (q := 51) 5 d307_2 rfl rfl rfl rfl ?_
    refine wq_l 6 d307_5 rfl rfl rfl rfl ?_
    refine wq_al 7 d307_6 rfl rfl rfl (bi) ?_
    rw [em]
    refine wq_k 8 2 d307_7 (by decide) rfl ?_
    refine wq_v 11 [_, _] d307_8 rfl rfl m292 rfl rfl (Nat.le_of_ble_eq_true rfl) rfl (re292 h hp hB hs (s := 2) (by decide) hR ?_)
    refine wq_s 12 d307_11 rfl rfl (Nat.le_of_ble_eq_true rfl) rfl rfl ?_
    refine wq_l 13 d307_12 rfl rfl rfl rfl ?_
    refine wq_b 18 16 d307_13 rfl (by decide) rfl (fun c13 => absurd c13 (by rw [i_le, es]; show ¬ _ ≤ (0 : Int); omega)) (fun c13 => ?_)
    refine wq_l 17 d307_16 rfl rfl rfl rfl ?_
    refine wq_ri d307_17 (rfl) ?_
    exact rr_q1 hQ (rr_Fi h) rfl e0
