theorem d237_0 : decode prog_14_method_45_code 0 = .ok (.aload_n 0, 1) := by decide +kernel
theorem d237_1 : decode prog_14_method_45_code 1 = .ok (.getfield 135, 3) := by decide +kernel
theorem d237_4 : decode prog_14_method_45_code 4 = .ok (.ifCond .le 4, 3) := by decide +kernel
theorem d237_7 : decode prog_14_method_45_code 7 = .ok (.return_, 1) := by decide +kernel
theorem d237_8 : decode prog_14_method_45_code 8 = .ok (.aload_n 0, 1) := by decide +kernel
theorem d237_9 : decode prog_14_method_45_code 9 = .ok (.getfield 151, 3) := by decide +kernel
theorem d237_12 : decode prog_14_method_45_code 12 = .ok (.istore_n 2, 1) := by decide +kernel
theorem d237_13 : decode prog_14_method_45_code 13 = .ok (.aload_n 0, 1) := by decide +kernel
theorem d237_14 : decode prog_14_method_45_code 14 = .ok (.bipush 45, 2) := by decide +kernel
theorem d237_16 : decode prog_14_method_45_code 16 = .ok (.invokevirtual 346, 3) := by decide +kernel
theorem d237_19 : decode prog_14_method_45_code 19 = .ok (.ifCond .ne 12, 3) := by decide +kernel
theorem d237_22 : decode prog_14_method_45_code 22 = .ok (.aload_n 0, 1) := by decide +kernel
theorem d237_23 : decode prog_14_method_45_code 23 = .ok (.bipush 42, 2) := by decide +kernel
theorem d237_25 : decode prog_14_method_45_code 25 = .ok (.invokevirtual 346, 3) := by decide +kernel
theorem d237_28 : decode prog_14_method_45_code 28 = .ok (.ifCond .eq 34, 3) := by decide +kernel
theorem d237_31 : decode prog_14_method_45_code 31 = .ok (.aload_n 0, 1) := by decide +kernel
theorem d237_32 : decode prog_14_method_45_code 32 = .ok (.iload_n 1, 1) := by decide +kernel
theorem d237_33 : decode prog_14_method_45_code 33 = .ok (.aload_n 0, 1) := by decide +kernel
theorem d237_34 : decode prog_14_method_45_code 34 = .ok (.bipush 45, 2) := by decide +kernel
theorem d237_36 : decode prog_14_method_45_code 36 = .ok (.invokevirtual 346, 3) := by decide +kernel
theorem d237_39 : decode prog_14_method_45_code 39 = .ok (.ifCond .eq 8, 3) := by decide +kernel
theorem d237_42 : decode prog_14_method_45_code 42 = .ok (.bipush 26, 2) := by decide +kernel
theorem d237_44 : decode prog_14_method_45_code 44 = .ok (.goto 5, 3) := by decide +kernel
theorem d237_47 : decode prog_14_method_45_code 47 = .ok (.bipush 27, 2) := by decide +kernel
theorem d237_49 : decode prog_14_method_45_code 49 = .ok (.iload_n 2, 1) := by decide +kernel
theorem d237_50 : decode prog_14_method_45_code 50 = .ok (.iconst 0, 1) := by decide +kernel
theorem d237_51 : decode prog_14_method_45_code 51 = .ok (.invokevirtual 349, 3) := by decide +kernel
theorem d237_54 : decode prog_14_method_45_code 54 = .ok (.pop, 1) := by decide +kernel
theorem d237_55 : decode prog_14_method_45_code 55 = .ok (.aload_n 0, 1) := by decide +kernel
theorem d237_56 : decode prog_14_method_45_code 56 = .ok (.invokevirtual 334, 3) := by decide +kernel
theorem d237_59 : decode prog_14_method_45_code 59 = .ok (.goto 197, 3) := by decide +kernel
theorem d237_62 : decode prog_14_method_45_code 62 = .ok (.aload_n 0, 1) := by decide +kernel
theorem d237_63 : decode prog_14_method_45_code 63 = .ok (.bipush 40, 2) := by decide +kernel
theorem d237_65 : decode prog_14_method_45_code 65 = .ok (.invokevirtual 346, 3) := by decide +kernel
theorem d237_68 : decode prog_14_method_45_code 68 = .ok (.ifCond .eq 102, 3) := by decide +kernel
theorem d237_71 : decode prog_14_method_45_code 71 = .ok (.aload_n 0, 1) := by decide +kernel
theorem d237_72 : decode prog_14_method_45_code 72 = .ok (.invokevirtual 334, 3) := by decide +kernel
theorem d237_75 : decode prog_14_method_45_code 75 = .ok (.aload_n 0, 1) := by decide +kernel
theorem d237_76 : decode prog_14_method_45_code 76 = .ok (.bipush 47, 2) := by decide +kernel
theorem d237_78 : decode prog_14_method_45_code 78 = .ok (.invokevirtual 346, 3) := by decide +kernel
theorem d237_81 : decode prog_14_method_45_code 81 = .ok (.ifCond .eq 7, 3) := by decide +kernel
theorem d237_84 : decode prog_14_method_45_code 84 = .ok (.iconst 1, 1) := by decide +kernel
theorem d237_85 : decode prog_14_method_45_code 85 = .ok (.goto 30, 3) := by decide +kernel
theorem d237_88 : decode prog_14_method_45_code 88 = .ok (.aload_n 0, 1) := by decide +kernel
theorem d237_89 : decode prog_14_method_45_code 89 = .ok (.bipush 43, 2) := by decide +kernel
theorem d237_91 : decode prog_14_method_45_code 91 = .ok (.invokevirtual 346, 3) := by decide +kernel
theorem d237_94 : decode prog_14_method_45_code 94 = .ok (.ifCond .eq 7, 3) := by decide +kernel
theorem d237_97 : decode prog_14_method_45_code 97 = .ok (.iconst 2, 1) := by decide +kernel
theorem d237_98 : decode prog_14_method_45_code 98 = .ok (.goto 17, 3) := by decide +kernel
theorem d237_101 : decode prog_14_method_45_code 101 = .ok (.aload_n 0, 1) := by decide +kernel
theorem d237_102 : decode prog_14_method_45_code 102 = .ok (.bipush 45, 2) := by decide +kernel
theorem d237_104 : decode prog_14_method_45_code 104 = .ok (.invokevirtual 346, 3) := by decide +kernel
theorem d237_107 : decode prog_14_method_45_code 107 = .ok (.ifCond .eq 7, 3) := by decide +kernel
theorem d237_110 : decode prog_14_method_45_code 110 = .ok (.iconst 3, 1) := by decide +kernel
theorem d237_111 : decode prog_14_method_45_code 111 = .ok (.goto 4, 3) := by decide +kernel
theorem d237_114 : decode prog_14_method_45_code 114 = .ok (.iconst 0, 1) := by decide +kernel
theorem d237_115 : decode prog_14_method_45_code 115 = .ok (.istore_n 3, 1) := by decide +kernel
theorem d237_116 : decode prog_14_method_45_code 116 = .ok (.aload_n 0, 1) := by decide +kernel
theorem d237_117 : decode prog_14_method_45_code 117 = .ok (.iload_n 1, 1) := by decide +kernel
theorem d237_118 : decode prog_14_method_45_code 118 = .ok (.bipush 28, 2) := by decide +kernel
theorem d237_120 : decode prog_14_method_45_code 120 = .ok (.iload_n 2, 1) := by decide +kernel
theorem d237_121 : decode prog_14_method_45_code 121 = .ok (.iload_n 3, 1) := by decide +kernel
theorem d237_122 : decode prog_14_method_45_code 122 = .ok (.invokevirtual 349, 3) := by decide +kernel
theorem d237_125 : decode prog_14_method_45_code 125 = .ok (.istore 4, 2) := by decide +kernel
theorem d237_127 : decode prog_14_method_45_code 127 = .ok (.iload_n 3, 1) := by decide +kernel
theorem d237_128 : decode prog_14_method_45_code 128 = .ok (.ifCond .le 7, 3) := by decide +kernel
theorem d237_131 : decode prog_14_method_45_code 131 = .ok (.aload_n 0, 1) := by decide +kernel
theorem d237_132 : decode prog_14_method_45_code 132 = .ok (.invokevirtual 334, 3) := by decide +kernel
theorem d237_135 : decode prog_14_method_45_code 135 = .ok (.aload_n 0, 1) := by decide +kernel
theorem d237_136 : decode prog_14_method_45_code 136 = .ok (.getfield 151, 3) := by decide +kernel
theorem d237_139 : decode prog_14_method_45_code 139 = .ok (.istore 5, 2) := by decide +kernel
theorem d237_141 : decode prog_14_method_45_code 141 = .ok (.aload_n 0, 1) := by decide +kernel
theorem d237_142 : decode prog_14_method_45_code 142 = .ok (.invokevirtual 356, 3) := by decide +kernel
theorem d237_145 : decode prog_14_method_45_code 145 = .ok (.istore 6, 2) := by decide +kernel
theorem d237_147 : decode prog_14_method_45_code 147 = .ok (.aload_n 0, 1) := by decide +kernel
theorem d237_148 : decode prog_14_method_45_code 148 = .ok (.iload 4, 2) := by decide +kernel
theorem d237_150 : decode prog_14_method_45_code 150 = .ok (.bipush 6, 2) := by decide +kernel
theorem d237_152 : decode prog_14_method_45_code 152 = .ok (.iload 5, 2) := by decide +kernel
theorem d237_154 : decode prog_14_method_45_code 154 = .ok (.iload 6, 2) := by decide +kernel
theorem d237_156 : decode prog_14_method_45_code 156 = .ok (.invokevirtual 349, 3) := by decide +kernel
theorem d237_159 : decode prog_14_method_45_code 159 = .ok (.pop, 1) := by decide +kernel
theorem d237_160 : decode prog_14_method_45_code 160 = .ok (.aload_n 0, 1) := by decide +kernel
theorem d237_161 : decode prog_14_method_45_code 161 = .ok (.sipush 241, 3) := by decide +kernel
theorem d237_164 : decode prog_14_method_45_code 164 = .ok (.invokevirtual 340, 3) := by decide +kernel
theorem d237_167 : decode prog_14_method_45_code 167 = .ok (.goto 89, 3) := by decide +kernel
theorem d237_170 : decode prog_14_method_45_code 170 = .ok (.aload_n 0, 1) := by decide +kernel
theorem d237_171 : decode prog_14_method_45_code 171 = .ok (.bipush 47, 2) := by decide +kernel
theorem d237_173 : decode prog_14_method_45_code 173 = .ok (.invokevirtual 346, 3) := by decide +kernel
theorem d237_176 : decode prog_14_method_45_code 176 = .ok (.ifCond .eq 7, 3) := by decide +kernel
theorem d237_179 : decode prog_14_method_45_code 179 = .ok (.iconst 1, 1) := by decide +kernel
theorem d237_180 : decode prog_14_method_45_code 180 = .ok (.goto 30, 3) := by decide +kernel
theorem d237_183 : decode prog_14_method_45_code 183 = .ok (.aload_n 0, 1) := by decide +kernel
theorem d237_184 : decode prog_14_method_45_code 184 = .ok (.bipush 62, 2) := by decide +kernel
theorem d237_186 : decode prog_14_method_45_code 186 = .ok (.invokevirtual 346, 3) := by decide +kernel
theorem d237_189 : decode prog_14_method_45_code 189 = .ok (.ifCond .eq 7, 3) := by decide +kernel
theorem d237_192 : decode prog_14_method_45_code 192 = .ok (.iconst 2, 1) := by decide +kernel
theorem d237_193 : decode prog_14_method_45_code 193 = .ok (.goto 17, 3) := by decide +kernel
theorem d237_196 : decode prog_14_method_45_code 196 = .ok (.aload_n 0, 1) := by decide +kernel
theorem d237_197 : decode prog_14_method_45_code 197 = .ok (.bipush 60, 2) := by decide +kernel
theorem d237_199 : decode prog_14_method_45_code 199 = .ok (.invokevirtual 346, 3) := by decide +kernel
theorem d237_202 : decode prog_14_method_45_code 202 = .ok (.ifCond .eq 7, 3) := by decide +kernel
theorem d237_205 : decode prog_14_method_45_code 205 = .ok (.iconst 3, 1) := by decide +kernel
theorem d237_206 : decode prog_14_method_45_code 206 = .ok (.goto 4, 3) := by decide +kernel
theorem d237_209 : decode prog_14_method_45_code 209 = .ok (.iconst 0, 1) := by decide +kernel
theorem d237_210 : decode prog_14_method_45_code 210 = .ok (.istore_n 3, 1) := by decide +kernel
theorem d237_211 : decode prog_14_method_45_code 211 = .ok (.aload_n 0, 1) := by decide +kernel
theorem d237_212 : decode prog_14_method_45_code 212 = .ok (.iload_n 1, 1) := by decide +kernel
theorem d237_213 : decode prog_14_method_45_code 213 = .ok (.bipush 25, 2) := by decide +kernel
theorem d237_215 : decode prog_14_method_45_code 215 = .ok (.iload_n 2, 1) := by decide +kernel
theorem d237_216 : decode prog_14_method_45_code 216 = .ok (.iload_n 3, 1) := by decide +kernel
theorem d237_217 : decode prog_14_method_45_code 217 = .ok (.invokevirtual 349, 3) := by decide +kernel
theorem d237_220 : decode prog_14_method_45_code 220 = .ok (.istore 4, 2) := by decide +kernel
theorem d237_222 : decode prog_14_method_45_code 222 = .ok (.iload_n 3, 1) := by decide +kernel
theorem d237_223 : decode prog_14_method_45_code 223 = .ok (.ifCond .le 7, 3) := by decide +kernel
theorem d237_226 : decode prog_14_method_45_code 226 = .ok (.aload_n 0, 1) := by decide +kernel
theorem d237_227 : decode prog_14_method_45_code 227 = .ok (.invokevirtual 334, 3) := by decide +kernel
theorem d237_230 : decode prog_14_method_45_code 230 = .ok (.aload_n 0, 1) := by decide +kernel
theorem d237_231 : decode prog_14_method_45_code 231 = .ok (.getfield 151, 3) := by decide +kernel
theorem d237_234 : decode prog_14_method_45_code 234 = .ok (.istore 5, 2) := by decide +kernel
theorem d237_236 : decode prog_14_method_45_code 236 = .ok (.aload_n 0, 1) := by decide +kernel
theorem d237_237 : decode prog_14_method_45_code 237 = .ok (.invokevirtual 356, 3) := by decide +kernel
theorem d237_240 : decode prog_14_method_45_code 240 = .ok (.istore 6, 2) := by decide +kernel
theorem d237_242 : decode prog_14_method_45_code 242 = .ok (.aload_n 0, 1) := by decide +kernel
theorem d237_243 : decode prog_14_method_45_code 243 = .ok (.iload 4, 2) := by decide +kernel
theorem d237_245 : decode prog_14_method_45_code 245 = .ok (.aload_n 0, 1) := by decide +kernel
theorem d237_246 : decode prog_14_method_45_code 246 = .ok (.iload 5, 2) := by decide +kernel
theorem d237_248 : decode prog_14_method_45_code 248 = .ok (.iload 6, 2) := by decide +kernel
theorem d237_250 : decode prog_14_method_45_code 250 = .ok (.invokevirtual 381, 3) := by decide +kernel
theorem d237_253 : decode prog_14_method_45_code 253 = .ok (.invokevirtual 328, 3) := by decide +kernel
theorem d237_256 : decode prog_14_method_45_code 256 = .ok (.return_, 1) := by decide +kernel
theorem m237 : pm_m 237 = some (⟨"TypeRulesModel", "cellOf", "(I)V"⟩, prog_14_method_45_code, 7, none, 10, 1, 11) := rfl
/-! ladders -/
theorem rf_pos {t : Nat → Nat} {M n : Nat} {σ : pm_S} {c : pg_C} {h : rp_H} {s : Nat} (hN : rp_n t M n) (hS : rp_S t M n σ c h s) (z : ¬ σ.1 10 6 = 0) : 0 < (σ.1 10 6).toInt := by
  have hd := rp_dd hS z
  have e := (hS.1.2.2.2 hd).1
  rw [e]
  unfold rf_f
  by_cases q : (pt_T t M n).1 c.1 = 45
  · rw [if_pos q]
    have q2 : lx_k t M lx_ns c.1 = 45 := (show (pt_T t M n).1 c.1 = lx_k t M lx_ns c.1 from if_pos hS.1.2.1).symm.trans q
    have hv := lx_bad (t := t) (M := M) (s := lx_at t M lx_ns c.1) q2
    have e2 := nI_toInt (n := (pt_T t M n).2.2 c.1) (by show lx_v t M lx_ns c.1 < _; have : lx_v t M lx_ns c.1 ≤ 5 := hv.2; omega)
    rw [e2]
    have : 1 ≤ (pt_T t M n).2.2 c.1 := hv.1
    omega
  · rw [if_neg q]
    split <;> decide
theorem pg_nout_c (T : pg_T) (c : pg_C) : pg_nout T c = (rp_nmc T (pg_exp T 41 c), rp_nml T (pg_pl T c) (pg_v T c) (pg_exp T 41 c)) := by
  unfold pg_nout rp_nmc rp_nml
  rw [pg_ite_c]
  by_cases q : pg_is T 59 (pg_exp T 41 c) = true
  · rw [if_pos q, if_pos q, if_pos q]
  · rw [if_neg q, if_neg q, if_neg q]
theorem pg_coil_c (T : pg_T) (c : pg_C) : pg_coil T c = (pg_exp T 53 (pg_exp T 41 (pg_skm T 63 60 61 (pg_stp c))), [(28, pg_pl T c, nI (pg_mark T 63 60 61 (pg_stp c)), 2), (6, pg_pl T (pg_skm T 63 60 61 (pg_stp c)), pg_v T (pg_skm T 63 60 61 (pg_stp c)), 1)]) := rfl
theorem pg_cont_c (T : pg_T) (c : pg_C) : pg_cont T c = ((pg_nout T (pg_skm T 63 66 65 c)).1, (25, pg_pl T c, nI (pg_mark T 63 66 65 c), (pg_nout T (pg_skm T 63 66 65 c)).2.length + 1) :: (pg_nout T (pg_skm T 63 66 65 c)).2) := rfl
theorem pg_mkle (T : pg_T) (x y z : Nat) (c : pg_C) : pg_mark T x y z c ≤ 3 := by
  unfold pg_mark
  split
  · omega
  · split
    · omega
    · split <;> omega
theorem pg_mk44 {T : pg_T} {x y z : Nat} {c : pg_C} (h : pg_mark T x y z c ≠ 0) (hx : (x ≠ 44 ∧ x ≠ 45 ∧ x ≠ 46) ∧ (y ≠ 44 ∧ y ≠ 45 ∧ y ≠ 46) ∧ (z ≠ 44 ∧ z ≠ 45 ∧ z ≠ 46)) : pg_live T c ∧ T.1 c.1 ≠ 44 := by
  unfold pg_mark at h
  by_cases q1 : pg_is T x c = true
  · exact pg_isl q1 hx.1
  · rw [if_neg q1] at h
    by_cases q2 : pg_is T y c = true
    · exact pg_isl q2 hx.2.1
    · rw [if_neg q2] at h
      by_cases q3 : pg_is T z c = true
      · exact pg_isl q3 hx.2.2
      · rw [if_neg q3] at h; exact absurd rfl h
theorem rps237a {d : Nat} {Q : Option Value → pm_S → Prop} {t : Nat → Nat} {M n : Nat} {σ : pm_S} {h : rp_H} {c : pg_C} {s row : Nat} {σ0 : pm_S} {c0 : pg_C} {p : Int32} {v a4 a5 a6 : Value} {w : Int32} (hN : rp_n t M n) (hs : s ≤ 2700) (ht : row < h.1) (k0 : rp_K σ0 σ) (hp : σ0.1 10 6 = 0 → p = nI (pg_pl (pt_T t M n) c0)) (hc : c = pg_stp c0) (hw : w = nI (pg_mark (pt_T t M n) 63 60 61 c)) (hS : rp_S t M n σ c h s) (hQ : ∀ σ' h', rp_S t M n σ' (pg_coil (pt_T t M n) c0).1 h' (s + 2) → rp_E t M n σ0 h σ' h' row (pg_coil (pt_T t M n) c0).2 → Q none σ') : pm_WP pm_Y0 (pm_call pm_Y0 (d + 10)) 10 prog_14_method_45_code none Q 116 [.ref 10, .int (nI row), .int p, .int w, a4, a5, a6] [] σ := by
  rw [pg_coil_c, ← hc] at hQ
  dsimp only at hQ
  subst hw
  have hmk := pg_mkle (pt_T t M n) 63 60 61 c
  have em := nI_toInt (n := pg_mark (pt_T t M n) 63 60 61 c) (by omega)
  refine wq_l 117 d237_116 rfl rfl rfl rfl ?_
  refine wq_l 118 d237_117 rfl rfl rfl rfl ?_
  refine wq_k 120 28 d237_118 (by decide) rfl ?_
  refine wq_l 121 d237_120 rfl rfl rfl rfl ?_
  refine wq_l 122 d237_121 rfl rfl rfl rfl ?_
  refine wq_v 125 [_, _, _, _] d237_122 rfl rfl m226 rfl rfl (Nat.le_of_ble_eq_true rfl) rfl (rp_mkin (to := row) hN (by omega) ht hS (fun σ1 h1 m1 => ?_))
  refine wq_s 127 d237_125 rfl rfl (Nat.le_of_ble_eq_true rfl) rfl rfl ?_
  refine wq_l 128 d237_127 rfl rfl rfl rfl ?_
  refine wq_b 135 131 d237_128 rfl (by decide) rfl (fun c128 => ?_) (fun c128 => ?_)
  · -- pc 135
    have m0 : pg_mark (pt_T t M n) 63 60 61 c = 0 := by have y := c128; simp only [i_lt, i_le, i_eq, ne_eq, Int32.reduceToInt, b2_0, b2_1, decide_eq_true_eq, decide_eq_false_iff_not, Bool.not_eq_true, Bool.not_eq_false, em] at y; omega
    have es : pg_skm (pt_T t M n) 63 60 61 c = c := if_pos m0
    rw [es] at hQ
    have k3 := rp_Kr (σ := σ1)
    have h3 := h1
    refine wq_l 136 d237_135 rfl rfl rfl rfl ?_
    refine wq_gi (ci := 10) (j := 4) 139 d237_136 rfl rfl rfl rfl ?_
    refine wq_s 141 d237_139 rfl rfl (Nat.le_of_ble_eq_true rfl) rfl rfl ?_
    refine wq_l 142 d237_141 rfl rfl rfl rfl ?_
    refine wq_v 145 [] d237_142 rfl rfl m228 rfl rfl (Nat.le_of_ble_eq_true rfl) rfl (rp_wn hN h3 (fun σ4 h4 k4 => ?_))
    refine wq_s 147 d237_145 rfl rfl (Nat.le_of_ble_eq_true rfl) rfl rfl ?_
    refine wq_l 148 d237_147 rfl rfl rfl rfl ?_
    refine wq_l 150 d237_148 rfl rfl rfl rfl ?_
    refine wq_k 152 6 d237_150 (by decide) rfl ?_
    refine wq_l 154 d237_152 rfl rfl rfl rfl ?_
    refine wq_l 156 d237_154 rfl rfl rfl rfl ?_
    refine wq_v 159 [_, _, _, _] d237_156 rfl rfl m226 rfl rfl (Nat.le_of_ble_eq_true rfl) rfl (rp_mkin (to := h.1) hN (by omega) rp_li h4 (fun σ5 h5 m5 => ?_))
    refine wq_a 160 d237_159 rfl rfl ?_
    refine wq_l 161 d237_160 rfl rfl rfl rfl ?_
    refine wq_k 164 241 d237_161 (by decide) rfl ?_
    refine wq_v 167 [_] d237_164 rfl rfl m229 rfl rfl (Nat.le_of_ble_eq_true rfl) rfl (rp_want (k := 53) hN (by decide) (by decide) h5 (fun σ6 h6 k6 => ?_))
    refine wq_g 256 d237_167 (by decide) ?_
    refine wq_rv d237_256 ?_
    have bk : σ6.1 10 6 = 0 → σ4.1 10 6 = 0 := fun y => m5.2.1 (k6.2 y)
    have g1 := rp_Et rp_li (rp_Ek (h := rp_in h row) (rp_Kt k3 k4)) (rp_Mn (k := 6) (p := _) (v := _) rp_li m5 (rp_Ek k6) (fun y => ⟨rfl, rp_pl h3 (k4.2 (bk y)), rp_nm (by decide) h3 h4 (bk y)⟩))
    have g2 := rp_Et ht (rp_Ek (h := h) k0) (rp_Mn (k := 28) (p := pg_pl (pt_T t M n) c0) ht m1 g1 (fun y => ⟨rfl, hp (k0.2 (m1.2.1 (k3.2 (k4.2 (bk y))))), rp_V0 (by decide)⟩))
    exact hQ _ _ (rp_Se h6 rfl (by omega)) g2
  · -- pc 131
    have m0 : ¬ pg_mark (pt_T t M n) 63 60 61 c = 0 := by have y := c128; simp only [i_lt, i_le, i_eq, ne_eq, Int32.reduceToInt, b2_0, b2_1, decide_eq_true_eq, decide_eq_false_iff_not, Bool.not_eq_true, Bool.not_eq_false, em] at y; omega
    refine wq_l 132 d237_131 rfl rfl rfl rfl ?_
    refine wq_v 135 [] d237_132 rfl rfl m203 rfl rfl (Nat.le_of_ble_eq_true rfl) rfl (rp_go hN (pg_mk44 m0 (by decide)) h1 (fun σ2 h2 k2 => ?_))
    have es : pg_skm (pt_T t M n) 63 60 61 c = pg_stp c := if_neg m0
    rw [es] at hQ
    have k3 := k2
    have h3 := h2
    refine wq_l 136 d237_135 rfl rfl rfl rfl ?_
    refine wq_gi (ci := 10) (j := 4) 139 d237_136 rfl rfl rfl rfl ?_
    refine wq_s 141 d237_139 rfl rfl (Nat.le_of_ble_eq_true rfl) rfl rfl ?_
    refine wq_l 142 d237_141 rfl rfl rfl rfl ?_
    refine wq_v 145 [] d237_142 rfl rfl m228 rfl rfl (Nat.le_of_ble_eq_true rfl) rfl (rp_wn hN h3 (fun σ4 h4 k4 => ?_))
    refine wq_s 147 d237_145 rfl rfl (Nat.le_of_ble_eq_true rfl) rfl rfl ?_
    refine wq_l 148 d237_147 rfl rfl rfl rfl ?_
    refine wq_l 150 d237_148 rfl rfl rfl rfl ?_
    refine wq_k 152 6 d237_150 (by decide) rfl ?_
    refine wq_l 154 d237_152 rfl rfl rfl rfl ?_
    refine wq_l 156 d237_154 rfl rfl rfl rfl ?_
    refine wq_v 159 [_, _, _, _] d237_156 rfl rfl m226 rfl rfl (Nat.le_of_ble_eq_true rfl) rfl (rp_mkin (to := h.1) hN (by omega) rp_li h4 (fun σ5 h5 m5 => ?_))
    refine wq_a 160 d237_159 rfl rfl ?_
    refine wq_l 161 d237_160 rfl rfl rfl rfl ?_
    refine wq_k 164 241 d237_161 (by decide) rfl ?_
    refine wq_v 167 [_] d237_164 rfl rfl m229 rfl rfl (Nat.le_of_ble_eq_true rfl) rfl (rp_want (k := 53) hN (by decide) (by decide) h5 (fun σ6 h6 k6 => ?_))
    refine wq_g 256 d237_167 (by decide) ?_
    refine wq_rv d237_256 ?_
    have bk : σ6.1 10 6 = 0 → σ4.1 10 6 = 0 := fun y => m5.2.1 (k6.2 y)
    have g1 := rp_Et rp_li (rp_Ek (h := rp_in h row) (rp_Kt k3 k4)) (rp_Mn (k := 6) (p := _) (v := _) rp_li m5 (rp_Ek k6) (fun y => ⟨rfl, rp_pl h3 (k4.2 (bk y)), rp_nm (by decide) h3 h4 (bk y)⟩))
    have g2 := rp_Et ht (rp_Ek (h := h) k0) (rp_Mn (k := 28) (p := pg_pl (pt_T t M n) c0) ht m1 g1 (fun y => ⟨rfl, hp (k0.2 (m1.2.1 (k3.2 (k4.2 (bk y))))), rp_V0 (by decide)⟩))
    exact hQ _ _ (rp_Se h6 rfl (by omega)) g2
theorem rps237b {d : Nat} {Q : Option Value → pm_S → Prop} {t : Nat → Nat} {M n : Nat} {σ : pm_S} {h : rp_H} {c : pg_C} {s row : Nat} {p : Int32} {a4 a5 a6 : Value} {w : Int32} (hN : rp_n t M n) (hs : s ≤ 2700) (ht : row < h.1) (hp : σ.1 10 6 = 0 → p = nI (pg_pl (pt_T t M n) c)) (hw : w = nI (pg_mark (pt_T t M n) 63 66 65 c)) (hS : rp_S t M n σ c h s) (hQ : ∀ σ' h', rp_S t M n σ' (pg_cont (pt_T t M n) c).1 h' (s + 3) → rp_E t M n σ h σ' h' row (pg_cont (pt_T t M n) c).2 → Q none σ') : pm_WP pm_Y0 (pm_call pm_Y0 (d + 10)) 10 prog_14_method_45_code none Q 211 [.ref 10, .int (nI row), .int p, .int w, a4, a5, a6] [] σ := by
  rw [pg_cont_c, pg_nout_c] at hQ
  dsimp only at hQ
  subst hw
  have hmk := pg_mkle (pt_T t M n) 63 66 65 c
  have em := nI_toInt (n := pg_mark (pt_T t M n) 63 66 65 c) (by omega)
  refine wq_l 212 d237_211 rfl rfl rfl rfl ?_
  refine wq_l 213 d237_212 rfl rfl rfl rfl ?_
  refine wq_k 215 25 d237_213 (by decide) rfl ?_
  refine wq_l 216 d237_215 rfl rfl rfl rfl ?_
  refine wq_l 217 d237_216 rfl rfl rfl rfl ?_
  refine wq_v 220 [_, _, _, _] d237_217 rfl rfl m226 rfl rfl (Nat.le_of_ble_eq_true rfl) rfl (rp_mkin (to := row) hN (by omega) ht hS (fun σ1 h1 m1 => ?_))
  refine wq_s 222 d237_220 rfl rfl (Nat.le_of_ble_eq_true rfl) rfl rfl ?_
  refine wq_l 223 d237_222 rfl rfl rfl rfl ?_
  refine wq_b 230 226 d237_223 rfl (by decide) rfl (fun c223 => ?_) (fun c223 => ?_)
  · -- pc 230
    have m0 : pg_mark (pt_T t M n) 63 66 65 c = 0 := by have y := c223; simp only [i_lt, i_le, i_eq, ne_eq, Int32.reduceToInt, b2_0, b2_1, decide_eq_true_eq, decide_eq_false_iff_not, Bool.not_eq_true, Bool.not_eq_false, em] at y; omega
    have es : pg_skm (pt_T t M n) 63 66 65 c = c := if_pos m0
    rw [es] at hQ
    have k3 := rp_Kr (σ := σ1)
    have h3 := h1
    refine wq_l 231 d237_230 rfl rfl rfl rfl ?_
    refine wq_gi (ci := 10) (j := 4) 234 d237_231 rfl rfl rfl rfl ?_
    refine wq_s 236 d237_234 rfl rfl (Nat.le_of_ble_eq_true rfl) rfl rfl ?_
    refine wq_l 237 d237_236 rfl rfl rfl rfl ?_
    refine wq_v 240 [] d237_237 rfl rfl m228 rfl rfl (Nat.le_of_ble_eq_true rfl) rfl (rp_wn hN h3 (fun σ4 h4 k4 => ?_))
    refine wq_s 242 d237_240 rfl rfl (Nat.le_of_ble_eq_true rfl) rfl rfl ?_
    refine wq_l 243 d237_242 rfl rfl rfl rfl ?_
    refine wq_l 245 d237_243 rfl rfl rfl rfl ?_
    refine wq_l 246 d237_245 rfl rfl rfl rfl ?_
    refine wq_l 248 d237_246 rfl rfl rfl rfl ?_
    refine wq_l 250 d237_248 rfl rfl rfl rfl ?_
    refine wq_v 253 [_, _] d237_250 rfl rfl m239 rfl rfl (Nat.le_of_ble_eq_true rfl) rfl (rp239 (s := s + 1) (p := pg_pl (pt_T t M n) _) (v := pg_v (pt_T t M n) _) hN (by omega) h4 (fun y => ⟨rp_pl h3 (k4.2 y), rp_nm (by decide) h3 h4 y, rp_nm (by decide) h3 h4 y⟩) (fun σ5 h5 e h6 o6 x6 _ => ?_))
    have o7 := rp_kO (rp_Kt k3 k4) (rp_Oq_o o6)
    refine wq_v 256 [_, _] d237_253 rfl rfl m227 rfl rfl (Nat.le_of_ble_eq_true rfl) rfl (rp_add h6 (Nat.lt_of_lt_of_le rp_li o7.1.2.1) o7.2.1.2.1 o7.2.1.2.2 (fun σ7 h7 F7 => ?_))
    refine wq_rv d237_256 ?_
    have bk : σ7.1 10 6 = 0 → σ1.1 10 6 = 0 := fun y => o7.1.2.2.1 (by rw [F7.1] at y; exact y)
    have g1 := rp_Mn (k := 25) (p := pg_pl (pt_T t M n) c) ht m1 (rp_Oa rp_li o7 F7) (fun y => ⟨rfl, hp (m1.2.1 (bk y)), rp_V0 (by decide)⟩)
    exact hQ _ _ (rp_Se h7 rfl (by omega)) g1
  · -- pc 226
    have m0 : ¬ pg_mark (pt_T t M n) 63 66 65 c = 0 := by have y := c223; simp only [i_lt, i_le, i_eq, ne_eq, Int32.reduceToInt, b2_0, b2_1, decide_eq_true_eq, decide_eq_false_iff_not, Bool.not_eq_true, Bool.not_eq_false, em] at y; omega
    refine wq_l 227 d237_226 rfl rfl rfl rfl ?_
    refine wq_v 230 [] d237_227 rfl rfl m203 rfl rfl (Nat.le_of_ble_eq_true rfl) rfl (rp_go hN (pg_mk44 m0 (by decide)) h1 (fun σ2 h2 k2 => ?_))
    have es : pg_skm (pt_T t M n) 63 66 65 c = pg_stp c := if_neg m0
    rw [es] at hQ
    have k3 := k2
    have h3 := h2
    refine wq_l 231 d237_230 rfl rfl rfl rfl ?_
    refine wq_gi (ci := 10) (j := 4) 234 d237_231 rfl rfl rfl rfl ?_
    refine wq_s 236 d237_234 rfl rfl (Nat.le_of_ble_eq_true rfl) rfl rfl ?_
    refine wq_l 237 d237_236 rfl rfl rfl rfl ?_
    refine wq_v 240 [] d237_237 rfl rfl m228 rfl rfl (Nat.le_of_ble_eq_true rfl) rfl (rp_wn hN h3 (fun σ4 h4 k4 => ?_))
    refine wq_s 242 d237_240 rfl rfl (Nat.le_of_ble_eq_true rfl) rfl rfl ?_
    refine wq_l 243 d237_242 rfl rfl rfl rfl ?_
    refine wq_l 245 d237_243 rfl rfl rfl rfl ?_
    refine wq_l 246 d237_245 rfl rfl rfl rfl ?_
    refine wq_l 248 d237_246 rfl rfl rfl rfl ?_
    refine wq_l 250 d237_248 rfl rfl rfl rfl ?_
    refine wq_v 253 [_, _] d237_250 rfl rfl m239 rfl rfl (Nat.le_of_ble_eq_true rfl) rfl (rp239 (s := s + 1) (p := pg_pl (pt_T t M n) _) (v := pg_v (pt_T t M n) _) hN (by omega) h4 (fun y => ⟨rp_pl h3 (k4.2 y), rp_nm (by decide) h3 h4 y, rp_nm (by decide) h3 h4 y⟩) (fun σ5 h5 e h6 o6 x6 _ => ?_))
    have o7 := rp_kO (rp_Kt k3 k4) (rp_Oq_o o6)
    refine wq_v 256 [_, _] d237_253 rfl rfl m227 rfl rfl (Nat.le_of_ble_eq_true rfl) rfl (rp_add h6 (Nat.lt_of_lt_of_le rp_li o7.1.2.1) o7.2.1.2.1 o7.2.1.2.2 (fun σ7 h7 F7 => ?_))
    refine wq_rv d237_256 ?_
    have bk : σ7.1 10 6 = 0 → σ1.1 10 6 = 0 := fun y => o7.1.2.2.1 (by rw [F7.1] at y; exact y)
    have g1 := rp_Mn (k := 25) (p := pg_pl (pt_T t M n) c) ht m1 (rp_Oa rp_li o7 F7) (fun y => ⟨rfl, hp (m1.2.1 (bk y)), rp_V0 (by decide)⟩)
    exact hQ _ _ (rp_Se h7 rfl (by omega)) g1
theorem rp237 {d : Nat} {Q : Option Value → pm_S → Prop} {t : Nat → Nat} {M n : Nat} {σ : pm_S} {h : rp_H} {c : pg_C} {s row : Nat} (hN : rp_n t M n) (hs : s ≤ 2700) (ht : row < h.1) (hS : rp_S t M n σ c h s) (hQ : ∀ σ' h', rp_S t M n σ' (pg_cell (pt_T t M n) c).1 h' (s + 3) → rp_E t M n σ h σ' h' row (pg_cell (pt_T t M n) c).2 → Q none σ') : pm_call pm_Y0 (d + 11) 237 [.ref 10, .int (nI row)] σ Q := by
  by_cases z : σ.1 10 6 = 0
  · have hpl := rp_pl hS z
    have ecell : pg_cell (pt_T t M n) c = if pg_is (pt_T t M n) 61 c then (pg_stp c, [(26, pg_pl (pt_T t M n) c, 0, 1)]) else if pg_is (pt_T t M n) 62 c then (pg_stp c, [(27, pg_pl (pt_T t M n) c, 0, 1)]) else if pg_is (pt_T t M n) 52 c then pg_coil (pt_T t M n) c else pg_cont (pt_T t M n) c := by
      unfold pg_cell
      simp only [pg_ite_c, pg_leaf_c]
    rw [ecell] at hQ
    clear ecell
    refine wq_m m237 (Nat.le_of_ble_eq_true rfl) (by decide) rfl ?_
    refine wq_l 1 d237_0 rfl rfl rfl rfl ?_
    refine wq_gi (ci := 10) (j := 6) 4 d237_1 rfl rfl rfl rfl ?_
    refine wq_b 8 7 d237_4 rfl (by decide) rfl (fun c4 => ?_) (fun c4 => absurd (by rw [z]; decide) c4)
    refine wq_l 9 d237_8 rfl rfl rfl rfl ?_
    refine wq_gi (ci := 10) (j := 4) 12 d237_9 rfl rfl rfl rfl ?_
    refine wq_s 13 d237_12 rfl rfl (Nat.le_of_ble_eq_true rfl) rfl rfl ?_
    refine wq_l 14 d237_13 rfl rfl rfl rfl ?_
    refine wq_k 16 45 d237_14 (by decide) rfl ?_
    refine wq_v 19 [_] d237_16 rfl rfl m238 rfl rfl (Nat.le_of_ble_eq_true rfl) rfl (rp_sg (k := 61) hN (by decide) (by decide) hS ?_)
    refine wq_b 31 22 d237_19 rfl (by decide) rfl (fun c19 => ?_) (fun c19 => ?_)
    · -- pc 31
      have f19 := b2n c19
      refine wq_l 32 d237_31 rfl rfl rfl rfl ?_
      refine wq_l 33 d237_32 rfl rfl rfl rfl ?_
      refine wq_l 34 d237_33 rfl rfl rfl rfl ?_
      refine wq_k 36 45 d237_34 (by decide) rfl ?_
      refine wq_v 39 [_] d237_36 rfl rfl m238 rfl rfl (Nat.le_of_ble_eq_true rfl) rfl (rp_sg (k := 61) hN (by decide) (by decide) hS ?_)
      refine wq_b 47 42 d237_39 rfl (by decide) rfl (fun c39 => ?_) (fun c39 => ?_)
      · -- pc 47
        have f39 := b2z c39
        exact absurd (f19.symm.trans f39) (by decide)
      · -- pc 42
        have f39 := b2n c39
        refine wq_k 44 26 d237_42 (by decide) rfl ?_
        refine wq_g 49 d237_44 (by decide) ?_
        refine wq_l 50 d237_49 rfl rfl rfl rfl ?_
        refine wq_k 51 0 d237_50 (by decide) rfl ?_
        refine wq_v 54 [_, _, _, _] d237_51 rfl rfl m226 rfl rfl (Nat.le_of_ble_eq_true rfl) rfl (rp_mkin (to := row) hN (by omega) ht hS (fun σ1 h1 m1 => ?_))
        refine wq_a 55 d237_54 rfl rfl ?_
        refine wq_l 56 d237_55 rfl rfl rfl rfl ?_
        refine wq_v 59 [] d237_56 rfl rfl m203 rfl rfl (Nat.le_of_ble_eq_true rfl) rfl (rp_go hN (by first | exact pg_isl f19 (by decide) | exact pg_isl f28 (by decide)) h1 (fun σ2 h2 k2 => ?_))
        have g1 := rp_Mn (t := t) (M := M) (n := n) (k := 26) (p := pg_pl (pt_T t M n) c) (v := 0) ht m1 (rp_Ek (h := rp_in h row) k2) (fun _ => ⟨rfl, hpl, rp_V0 (by decide)⟩)
        rw [if_pos f19] at hQ
        have fin := hQ _ _ (rp_Se h2 rfl (by omega)) g1
        refine wq_g 256 d237_59 (by decide) ?_
        refine wq_rv d237_256 ?_
        exact fin
    · -- pc 22
      have f19 := b2y c19
      refine wq_l 23 d237_22 rfl rfl rfl rfl ?_
      refine wq_k 25 42 d237_23 (by decide) rfl ?_
      refine wq_v 28 [_] d237_25 rfl rfl m238 rfl rfl (Nat.le_of_ble_eq_true rfl) rfl (rp_sg (k := 62) hN (by decide) (by decide) hS ?_)
      refine wq_b 62 31 d237_28 rfl (by decide) rfl (fun c28 => ?_) (fun c28 => ?_)
      · -- pc 62
        have f28 := b2z c28
        refine wq_l 63 d237_62 rfl rfl rfl rfl ?_
        refine wq_k 65 40 d237_63 (by decide) rfl ?_
        refine wq_v 68 [_] d237_65 rfl rfl m238 rfl rfl (Nat.le_of_ble_eq_true rfl) rfl (rp_sg (k := 52) hN (by decide) (by decide) hS ?_)
        refine wq_b 170 71 d237_68 rfl (by decide) rfl (fun c68 => ?_) (fun c68 => ?_)
        · -- pc 170
          have f68 := b2z c68
          rw [if_neg (by rw [f19]; decide), if_neg (by rw [f28]; decide), if_neg (by rw [f68]; decide)] at hQ
          refine wq_l 171 d237_170 rfl rfl rfl rfl ?_
          refine wq_k 173 47 d237_171 (by decide) rfl ?_
          refine wq_v 176 [_] d237_173 rfl rfl m238 rfl rfl (Nat.le_of_ble_eq_true rfl) rfl (rp_sg (k := 63) hN (by decide) (by decide) hS ?_)
          refine wq_b 183 179 d237_176 rfl (by decide) rfl (fun c176 => ?_) (fun c176 => ?_)
          · -- pc 183
            have f176 := b2z c176
            refine wq_l 184 d237_183 rfl rfl rfl rfl ?_
            refine wq_k 186 62 d237_184 (by decide) rfl ?_
            refine wq_v 189 [_] d237_186 rfl rfl m238 rfl rfl (Nat.le_of_ble_eq_true rfl) rfl (rp_sg (k := 66) hN (by decide) (by decide) hS ?_)
            refine wq_b 196 192 d237_189 rfl (by decide) rfl (fun c189 => ?_) (fun c189 => ?_)
            · -- pc 196
              have f189 := b2z c189
              refine wq_l 197 d237_196 rfl rfl rfl rfl ?_
              refine wq_k 199 60 d237_197 (by decide) rfl ?_
              refine wq_v 202 [_] d237_199 rfl rfl m238 rfl rfl (Nat.le_of_ble_eq_true rfl) rfl (rp_sg (k := 65) hN (by decide) (by decide) hS ?_)
              refine wq_b 209 205 d237_202 rfl (by decide) rfl (fun c202 => ?_) (fun c202 => ?_)
              · -- pc 209
                have f202 := b2z c202
                refine wq_k 210 0 d237_209 (by decide) rfl ?_
                refine wq_s 211 d237_210 rfl rfl (Nat.le_of_ble_eq_true rfl) rfl rfl ?_
                exact rps237b hN (by omega) ht (fun _ => hpl) (by first | (unfold pg_mark; rw [if_pos f176]; rfl) | (unfold pg_mark; rw [if_neg (by rw [f176]; decide), if_pos f189]; rfl) | (unfold pg_mark; rw [if_neg (by rw [f176]; decide), if_neg (by rw [f189]; decide), if_pos f202]; rfl) | (unfold pg_mark; rw [if_neg (by rw [f176]; decide), if_neg (by rw [f189]; decide), if_neg (by rw [f202]; decide)]; rfl)) hS hQ
              · -- pc 205
                have f202 := b2n c202
                refine wq_k 206 3 d237_205 (by decide) rfl ?_
                refine wq_g 210 d237_206 (by decide) ?_
                refine wq_s 211 d237_210 rfl rfl (Nat.le_of_ble_eq_true rfl) rfl rfl ?_
                exact rps237b hN (by omega) ht (fun _ => hpl) (by first | (unfold pg_mark; rw [if_pos f176]; rfl) | (unfold pg_mark; rw [if_neg (by rw [f176]; decide), if_pos f189]; rfl) | (unfold pg_mark; rw [if_neg (by rw [f176]; decide), if_neg (by rw [f189]; decide), if_pos f202]; rfl) | (unfold pg_mark; rw [if_neg (by rw [f176]; decide), if_neg (by rw [f189]; decide), if_neg (by rw [f202]; decide)]; rfl)) hS hQ
            · -- pc 192
              have f189 := b2n c189
              refine wq_k 193 2 d237_192 (by decide) rfl ?_
              refine wq_g 210 d237_193 (by decide) ?_
              refine wq_s 211 d237_210 rfl rfl (Nat.le_of_ble_eq_true rfl) rfl rfl ?_
              exact rps237b hN (by omega) ht (fun _ => hpl) (by first | (unfold pg_mark; rw [if_pos f176]; rfl) | (unfold pg_mark; rw [if_neg (by rw [f176]; decide), if_pos f189]; rfl) | (unfold pg_mark; rw [if_neg (by rw [f176]; decide), if_neg (by rw [f189]; decide), if_pos f202]; rfl) | (unfold pg_mark; rw [if_neg (by rw [f176]; decide), if_neg (by rw [f189]; decide), if_neg (by rw [f202]; decide)]; rfl)) hS hQ
          · -- pc 179
            have f176 := b2n c176
            refine wq_k 180 1 d237_179 (by decide) rfl ?_
            refine wq_g 210 d237_180 (by decide) ?_
            refine wq_s 211 d237_210 rfl rfl (Nat.le_of_ble_eq_true rfl) rfl rfl ?_
            exact rps237b hN (by omega) ht (fun _ => hpl) (by first | (unfold pg_mark; rw [if_pos f176]; rfl) | (unfold pg_mark; rw [if_neg (by rw [f176]; decide), if_pos f189]; rfl) | (unfold pg_mark; rw [if_neg (by rw [f176]; decide), if_neg (by rw [f189]; decide), if_pos f202]; rfl) | (unfold pg_mark; rw [if_neg (by rw [f176]; decide), if_neg (by rw [f189]; decide), if_neg (by rw [f202]; decide)]; rfl)) hS hQ
        · -- pc 71
          have f68 := b2n c68
          rw [if_neg (by rw [f19]; decide), if_neg (by rw [f28]; decide), if_pos f68] at hQ
          refine wq_l 72 d237_71 rfl rfl rfl rfl ?_
          refine wq_v 75 [] d237_72 rfl rfl m203 rfl rfl (Nat.le_of_ble_eq_true rfl) rfl (rp_go hN (pg_isl f68 (by decide)) hS (fun σ71 h71 k71 => ?_))
          skip
          refine wq_l 76 d237_75 rfl rfl rfl rfl ?_
          refine wq_k 78 47 d237_76 (by decide) rfl ?_
          refine wq_v 81 [_] d237_78 rfl rfl m238 rfl rfl (Nat.le_of_ble_eq_true rfl) rfl (rp_sg (k := 63) hN (by decide) (by decide) h71 ?_)
          refine wq_b 88 84 d237_81 rfl (by decide) rfl (fun c81 => ?_) (fun c81 => ?_)
          · -- pc 88
            have f81 := b2z c81
            refine wq_l 89 d237_88 rfl rfl rfl rfl ?_
            refine wq_k 91 43 d237_89 (by decide) rfl ?_
            refine wq_v 94 [_] d237_91 rfl rfl m238 rfl rfl (Nat.le_of_ble_eq_true rfl) rfl (rp_sg (k := 60) hN (by decide) (by decide) h71 ?_)
            refine wq_b 101 97 d237_94 rfl (by decide) rfl (fun c94 => ?_) (fun c94 => ?_)
            · -- pc 101
              have f94 := b2z c94
              refine wq_l 102 d237_101 rfl rfl rfl rfl ?_
              refine wq_k 104 45 d237_102 (by decide) rfl ?_
              refine wq_v 107 [_] d237_104 rfl rfl m238 rfl rfl (Nat.le_of_ble_eq_true rfl) rfl (rp_sg (k := 61) hN (by decide) (by decide) h71 ?_)
              refine wq_b 114 110 d237_107 rfl (by decide) rfl (fun c107 => ?_) (fun c107 => ?_)
              · -- pc 114
                have f107 := b2z c107
                refine wq_k 115 0 d237_114 (by decide) rfl ?_
                refine wq_s 116 d237_115 rfl rfl (Nat.le_of_ble_eq_true rfl) rfl rfl ?_
                exact rps237a (v := .int 0) hN (by omega) ht k71 (fun _ => hpl) rfl (by first | (unfold pg_mark; rw [if_pos f81]; rfl) | (unfold pg_mark; rw [if_neg (by rw [f81]; decide), if_pos f94]; rfl) | (unfold pg_mark; rw [if_neg (by rw [f81]; decide), if_neg (by rw [f94]; decide), if_pos f107]; rfl) | (unfold pg_mark; rw [if_neg (by rw [f81]; decide), if_neg (by rw [f94]; decide), if_neg (by rw [f107]; decide)]; rfl)) h71 (fun σ' h' b1 b2 => hQ σ' h' (rp_Se b1 rfl (by omega)) b2)
              · -- pc 110
                have f107 := b2n c107
                refine wq_k 111 3 d237_110 (by decide) rfl ?_
                refine wq_g 115 d237_111 (by decide) ?_
                refine wq_s 116 d237_115 rfl rfl (Nat.le_of_ble_eq_true rfl) rfl rfl ?_
                exact rps237a (v := .int 0) hN (by omega) ht k71 (fun _ => hpl) rfl (by first | (unfold pg_mark; rw [if_pos f81]; rfl) | (unfold pg_mark; rw [if_neg (by rw [f81]; decide), if_pos f94]; rfl) | (unfold pg_mark; rw [if_neg (by rw [f81]; decide), if_neg (by rw [f94]; decide), if_pos f107]; rfl) | (unfold pg_mark; rw [if_neg (by rw [f81]; decide), if_neg (by rw [f94]; decide), if_neg (by rw [f107]; decide)]; rfl)) h71 (fun σ' h' b1 b2 => hQ σ' h' (rp_Se b1 rfl (by omega)) b2)
            · -- pc 97
              have f94 := b2n c94
              refine wq_k 98 2 d237_97 (by decide) rfl ?_
              refine wq_g 115 d237_98 (by decide) ?_
              refine wq_s 116 d237_115 rfl rfl (Nat.le_of_ble_eq_true rfl) rfl rfl ?_
              exact rps237a (v := .int 0) hN (by omega) ht k71 (fun _ => hpl) rfl (by first | (unfold pg_mark; rw [if_pos f81]; rfl) | (unfold pg_mark; rw [if_neg (by rw [f81]; decide), if_pos f94]; rfl) | (unfold pg_mark; rw [if_neg (by rw [f81]; decide), if_neg (by rw [f94]; decide), if_pos f107]; rfl) | (unfold pg_mark; rw [if_neg (by rw [f81]; decide), if_neg (by rw [f94]; decide), if_neg (by rw [f107]; decide)]; rfl)) h71 (fun σ' h' b1 b2 => hQ σ' h' (rp_Se b1 rfl (by omega)) b2)
          · -- pc 84
            have f81 := b2n c81
            refine wq_k 85 1 d237_84 (by decide) rfl ?_
            refine wq_g 115 d237_85 (by decide) ?_
            refine wq_s 116 d237_115 rfl rfl (Nat.le_of_ble_eq_true rfl) rfl rfl ?_
            exact rps237a (v := .int 0) hN (by omega) ht k71 (fun _ => hpl) rfl (by first | (unfold pg_mark; rw [if_pos f81]; rfl) | (unfold pg_mark; rw [if_neg (by rw [f81]; decide), if_pos f94]; rfl) | (unfold pg_mark; rw [if_neg (by rw [f81]; decide), if_neg (by rw [f94]; decide), if_pos f107]; rfl) | (unfold pg_mark; rw [if_neg (by rw [f81]; decide), if_neg (by rw [f94]; decide), if_neg (by rw [f107]; decide)]; rfl)) h71 (fun σ' h' b1 b2 => hQ σ' h' (rp_Se b1 rfl (by omega)) b2)
      · -- pc 31
        have f28 := b2n c28
        refine wq_l 32 d237_31 rfl rfl rfl rfl ?_
        refine wq_l 33 d237_32 rfl rfl rfl rfl ?_
        refine wq_l 34 d237_33 rfl rfl rfl rfl ?_
        refine wq_k 36 45 d237_34 (by decide) rfl ?_
        refine wq_v 39 [_] d237_36 rfl rfl m238 rfl rfl (Nat.le_of_ble_eq_true rfl) rfl (rp_sg (k := 61) hN (by decide) (by decide) hS ?_)
        refine wq_b 47 42 d237_39 rfl (by decide) rfl (fun c39 => ?_) (fun c39 => ?_)
        · -- pc 47
          have f39 := b2z c39
          refine wq_k 49 27 d237_47 (by decide) rfl ?_
          refine wq_l 50 d237_49 rfl rfl rfl rfl ?_
          refine wq_k 51 0 d237_50 (by decide) rfl ?_
          refine wq_v 54 [_, _, _, _] d237_51 rfl rfl m226 rfl rfl (Nat.le_of_ble_eq_true rfl) rfl (rp_mkin (to := row) hN (by omega) ht hS (fun σ1 h1 m1 => ?_))
          refine wq_a 55 d237_54 rfl rfl ?_
          refine wq_l 56 d237_55 rfl rfl rfl rfl ?_
          refine wq_v 59 [] d237_56 rfl rfl m203 rfl rfl (Nat.le_of_ble_eq_true rfl) rfl (rp_go hN (by first | exact pg_isl f19 (by decide) | exact pg_isl f28 (by decide)) h1 (fun σ2 h2 k2 => ?_))
          have g1 := rp_Mn (t := t) (M := M) (n := n) (k := 27) (p := pg_pl (pt_T t M n) c) (v := 0) ht m1 (rp_Ek (h := rp_in h row) k2) (fun _ => ⟨rfl, hpl, rp_V0 (by decide)⟩)
          rw [if_neg (by rw [f19]; decide), if_pos f28] at hQ
          have fin := hQ _ _ (rp_Se h2 rfl (by omega)) g1
          refine wq_g 256 d237_59 (by decide) ?_
          refine wq_rv d237_256 ?_
          exact fin
        · -- pc 42
          have f39 := b2n c39
          exact absurd (f19.symm.trans f39) (by decide)
  · have hp := rf_pos hN hS z
    refine wq_m m237 (Nat.le_of_ble_eq_true rfl) (by decide) rfl ?_
    refine wq_l 1 d237_0 rfl rfl rfl rfl ?_
    refine wq_gi (ci := 10) (j := 6) 4 d237_1 rfl rfl rfl rfl ?_
    refine wq_b 8 7 d237_4 rfl (by decide) rfl (fun c4 => absurd c4 (by simp only [i_lt, i_le, i_eq, ne_eq, Int32.reduceToInt, b2_0, b2_1, decide_eq_true_eq, decide_eq_false_iff_not, Bool.not_eq_true, Bool.not_eq_false]; omega)) (fun c4 => ?_)
    refine wq_rv d237_7 ?_
    exact hQ _ _ (rp_Sd hS (rp_dd hS z) (pg_dcell _ _ (rp_dd hS z)) (by omega)) (rp_Ed rp_Wr z)
