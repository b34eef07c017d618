theorem d232_0 : decode prog_14_method_41_code 0 = .ok (.aload_n 0, 1) := by decide +kernel
theorem d232_1 : decode prog_14_method_41_code 1 = .ok (.iload_n 1, 1) := by decide +kernel
theorem d232_2 : decode prog_14_method_41_code 2 = .ok (.iconst 5, 1) := by decide +kernel
theorem d232_3 : decode prog_14_method_41_code 3 = .ok (.aload_n 0, 1) := by decide +kernel
theorem d232_4 : decode prog_14_method_41_code 4 = .ok (.getfield 151, 3) := by decide +kernel
theorem d232_7 : decode prog_14_method_41_code 7 = .ok (.iconst 0, 1) := by decide +kernel
theorem d232_8 : decode prog_14_method_41_code 8 = .ok (.invokevirtual 349, 3) := by decide +kernel
theorem d232_11 : decode prog_14_method_41_code 11 = .ok (.istore_n 2, 1) := by decide +kernel
theorem d232_12 : decode prog_14_method_41_code 12 = .ok (.iconst 1, 1) := by decide +kernel
theorem d232_13 : decode prog_14_method_41_code 13 = .ok (.istore_n 3, 1) := by decide +kernel
theorem d232_14 : decode prog_14_method_41_code 14 = .ok (.iload_n 3, 1) := by decide +kernel
theorem d232_15 : decode prog_14_method_41_code 15 = .ok (.ifCond .eq 62, 3) := by decide +kernel
theorem d232_18 : decode prog_14_method_41_code 18 = .ok (.aload_n 0, 1) := by decide +kernel
theorem d232_19 : decode prog_14_method_41_code 19 = .ok (.getfield 135, 3) := by decide +kernel
theorem d232_22 : decode prog_14_method_41_code 22 = .ok (.ifCond .ne 55, 3) := by decide +kernel
theorem d232_25 : decode prog_14_method_41_code 25 = .ok (.aload_n 0, 1) := by decide +kernel
theorem d232_26 : decode prog_14_method_41_code 26 = .ok (.getfield 151, 3) := by decide +kernel
theorem d232_29 : decode prog_14_method_41_code 29 = .ok (.istore 4, 2) := by decide +kernel
theorem d232_31 : decode prog_14_method_41_code 31 = .ok (.aload_n 0, 1) := by decide +kernel
theorem d232_32 : decode prog_14_method_41_code 32 = .ok (.invokevirtual 356, 3) := by decide +kernel
theorem d232_35 : decode prog_14_method_41_code 35 = .ok (.istore 5, 2) := by decide +kernel
theorem d232_37 : decode prog_14_method_41_code 37 = .ok (.aload_n 0, 1) := by decide +kernel
theorem d232_38 : decode prog_14_method_41_code 38 = .ok (.getfield 135, 3) := by decide +kernel
theorem d232_41 : decode prog_14_method_41_code 41 = .ok (.ifCond .eq 13, 3) := by decide +kernel
theorem d232_44 : decode prog_14_method_41_code 44 = .ok (.aload_n 0, 1) := by decide +kernel
theorem d232_45 : decode prog_14_method_41_code 45 = .ok (.getfield 321, 3) := by decide +kernel
theorem d232_48 : decode prog_14_method_41_code 48 = .ok (.sipush 20000, 3) := by decide +kernel
theorem d232_51 : decode prog_14_method_41_code 51 = .ok (.if_icmp .ge 15, 3) := by decide +kernel
theorem d232_54 : decode prog_14_method_41_code 54 = .ok (.aload_n 0, 1) := by decide +kernel
theorem d232_55 : decode prog_14_method_41_code 55 = .ok (.iload_n 2, 1) := by decide +kernel
theorem d232_56 : decode prog_14_method_41_code 56 = .ok (.bipush 6, 2) := by decide +kernel
theorem d232_58 : decode prog_14_method_41_code 58 = .ok (.iload 4, 2) := by decide +kernel
theorem d232_60 : decode prog_14_method_41_code 60 = .ok (.iload 5, 2) := by decide +kernel
theorem d232_62 : decode prog_14_method_41_code 62 = .ok (.invokevirtual 349, 3) := by decide +kernel
theorem d232_65 : decode prog_14_method_41_code 65 = .ok (.pop, 1) := by decide +kernel
theorem d232_66 : decode prog_14_method_41_code 66 = .ok (.aload_n 0, 1) := by decide +kernel
theorem d232_67 : decode prog_14_method_41_code 67 = .ok (.sipush 244, 3) := by decide +kernel
theorem d232_70 : decode prog_14_method_41_code 70 = .ok (.invokevirtual 353, 3) := by decide +kernel
theorem d232_73 : decode prog_14_method_41_code 73 = .ok (.istore_n 3, 1) := by decide +kernel
theorem d232_74 : decode prog_14_method_41_code 74 = .ok (.goto (-60), 3) := by decide +kernel
theorem d232_77 : decode prog_14_method_41_code 77 = .ok (.aload_n 0, 1) := by decide +kernel
theorem d232_78 : decode prog_14_method_41_code 78 = .ok (.bipush 110, 2) := by decide +kernel
theorem d232_80 : decode prog_14_method_41_code 80 = .ok (.invokevirtual 353, 3) := by decide +kernel
theorem d232_83 : decode prog_14_method_41_code 83 = .ok (.ifCond .eq 32, 3) := by decide +kernel
theorem d232_86 : decode prog_14_method_41_code 86 = .ok (.aload_n 0, 1) := by decide +kernel
theorem d232_87 : decode prog_14_method_41_code 87 = .ok (.getfield 151, 3) := by decide +kernel
theorem d232_90 : decode prog_14_method_41_code 90 = .ok (.istore 4, 2) := by decide +kernel
theorem d232_92 : decode prog_14_method_41_code 92 = .ok (.aload_n 0, 1) := by decide +kernel
theorem d232_93 : decode prog_14_method_41_code 93 = .ok (.getfield 154, 3) := by decide +kernel
theorem d232_96 : decode prog_14_method_41_code 96 = .ok (.istore 5, 2) := by decide +kernel
theorem d232_98 : decode prog_14_method_41_code 98 = .ok (.aload_n 0, 1) := by decide +kernel
theorem d232_99 : decode prog_14_method_41_code 99 = .ok (.iconst 3, 1) := by decide +kernel
theorem d232_100 : decode prog_14_method_41_code 100 = .ok (.invokevirtual 340, 3) := by decide +kernel
theorem d232_103 : decode prog_14_method_41_code 103 = .ok (.aload_n 0, 1) := by decide +kernel
theorem d232_104 : decode prog_14_method_41_code 104 = .ok (.iload_n 2, 1) := by decide +kernel
theorem d232_105 : decode prog_14_method_41_code 105 = .ok (.bipush 7, 2) := by decide +kernel
theorem d232_107 : decode prog_14_method_41_code 107 = .ok (.iload 4, 2) := by decide +kernel
theorem d232_109 : decode prog_14_method_41_code 109 = .ok (.iload 5, 2) := by decide +kernel
theorem d232_111 : decode prog_14_method_41_code 111 = .ok (.invokevirtual 349, 3) := by decide +kernel
theorem d232_114 : decode prog_14_method_41_code 114 = .ok (.pop, 1) := by decide +kernel
theorem d232_115 : decode prog_14_method_41_code 115 = .ok (.aload_n 0, 1) := by decide +kernel
theorem d232_116 : decode prog_14_method_41_code 116 = .ok (.sipush 258, 3) := by decide +kernel
theorem d232_119 : decode prog_14_method_41_code 119 = .ok (.invokevirtual 340, 3) := by decide +kernel
theorem d232_122 : decode prog_14_method_41_code 122 = .ok (.aload_n 0, 1) := by decide +kernel
theorem d232_123 : decode prog_14_method_41_code 123 = .ok (.bipush 114, 2) := by decide +kernel
theorem d232_125 : decode prog_14_method_41_code 125 = .ok (.invokevirtual 331, 3) := by decide +kernel
theorem d232_128 : decode prog_14_method_41_code 128 = .ok (.ifCond .eq 69, 3) := by decide +kernel
theorem d232_131 : decode prog_14_method_41_code 131 = .ok (.aload_n 0, 1) := by decide +kernel
theorem d232_132 : decode prog_14_method_41_code 132 = .ok (.iload_n 2, 1) := by decide +kernel
theorem d232_133 : decode prog_14_method_41_code 133 = .ok (.bipush 9, 2) := by decide +kernel
theorem d232_135 : decode prog_14_method_41_code 135 = .ok (.aload_n 0, 1) := by decide +kernel
theorem d232_136 : decode prog_14_method_41_code 136 = .ok (.getfield 151, 3) := by decide +kernel
theorem d232_139 : decode prog_14_method_41_code 139 = .ok (.iconst 0, 1) := by decide +kernel
theorem d232_140 : decode prog_14_method_41_code 140 = .ok (.invokevirtual 349, 3) := by decide +kernel
theorem d232_143 : decode prog_14_method_41_code 143 = .ok (.istore 4, 2) := by decide +kernel
theorem d232_145 : decode prog_14_method_41_code 145 = .ok (.aload_n 0, 1) := by decide +kernel
theorem d232_146 : decode prog_14_method_41_code 146 = .ok (.invokevirtual 334, 3) := by decide +kernel
theorem d232_149 : decode prog_14_method_41_code 149 = .ok (.aload_n 0, 1) := by decide +kernel
theorem d232_150 : decode prog_14_method_41_code 150 = .ok (.sipush 291, 3) := by decide +kernel
theorem d232_153 : decode prog_14_method_41_code 153 = .ok (.invokevirtual 340, 3) := by decide +kernel
theorem d232_156 : decode prog_14_method_41_code 156 = .ok (.aload_n 0, 1) := by decide +kernel
theorem d232_157 : decode prog_14_method_41_code 157 = .ok (.iload 4, 2) := by decide +kernel
theorem d232_159 : decode prog_14_method_41_code 159 = .ok (.invokevirtual 360, 3) := by decide +kernel
theorem d232_162 : decode prog_14_method_41_code 162 = .ok (.aload_n 0, 1) := by decide +kernel
theorem d232_163 : decode prog_14_method_41_code 163 = .ok (.sipush 401, 3) := by decide +kernel
theorem d232_166 : decode prog_14_method_41_code 166 = .ok (.invokevirtual 340, 3) := by decide +kernel
theorem d232_169 : decode prog_14_method_41_code 169 = .ok (.aload_n 0, 1) := by decide +kernel
theorem d232_170 : decode prog_14_method_41_code 170 = .ok (.iload 4, 2) := by decide +kernel
theorem d232_172 : decode prog_14_method_41_code 172 = .ok (.invokevirtual 360, 3) := by decide +kernel
theorem d232_175 : decode prog_14_method_41_code 175 = .ok (.aload_n 0, 1) := by decide +kernel
theorem d232_176 : decode prog_14_method_41_code 176 = .ok (.sipush 293, 3) := by decide +kernel
theorem d232_179 : decode prog_14_method_41_code 179 = .ok (.invokevirtual 340, 3) := by decide +kernel
theorem d232_182 : decode prog_14_method_41_code 182 = .ok (.aload_n 0, 1) := by decide +kernel
theorem d232_183 : decode prog_14_method_41_code 183 = .ok (.bipush 115, 2) := by decide +kernel
theorem d232_185 : decode prog_14_method_41_code 185 = .ok (.invokevirtual 340, 3) := by decide +kernel
theorem d232_188 : decode prog_14_method_41_code 188 = .ok (.aload_n 0, 1) := by decide +kernel
theorem d232_189 : decode prog_14_method_41_code 189 = .ok (.iload 4, 2) := by decide +kernel
theorem d232_191 : decode prog_14_method_41_code 191 = .ok (.invokevirtual 363, 3) := by decide +kernel
theorem d232_194 : decode prog_14_method_41_code 194 = .ok (.goto 39, 3) := by decide +kernel
theorem d232_197 : decode prog_14_method_41_code 197 = .ok (.aload_n 0, 1) := by decide +kernel
theorem d232_198 : decode prog_14_method_41_code 198 = .ok (.iconst 1, 1) := by decide +kernel
theorem d232_199 : decode prog_14_method_41_code 199 = .ok (.invokevirtual 331, 3) := by decide +kernel
theorem d232_202 : decode prog_14_method_41_code 202 = .ok (.ifCond .eq 26, 3) := by decide +kernel
theorem d232_205 : decode prog_14_method_41_code 205 = .ok (.aload_n 0, 1) := by decide +kernel
theorem d232_206 : decode prog_14_method_41_code 206 = .ok (.iload_n 2, 1) := by decide +kernel
theorem d232_207 : decode prog_14_method_41_code 207 = .ok (.bipush 10, 2) := by decide +kernel
theorem d232_209 : decode prog_14_method_41_code 209 = .ok (.aload_n 0, 1) := by decide +kernel
theorem d232_210 : decode prog_14_method_41_code 210 = .ok (.getfield 151, 3) := by decide +kernel
theorem d232_213 : decode prog_14_method_41_code 213 = .ok (.aload_n 0, 1) := by decide +kernel
theorem d232_214 : decode prog_14_method_41_code 214 = .ok (.getfield 154, 3) := by decide +kernel
theorem d232_217 : decode prog_14_method_41_code 217 = .ok (.invokevirtual 349, 3) := by decide +kernel
theorem d232_220 : decode prog_14_method_41_code 220 = .ok (.pop, 1) := by decide +kernel
theorem d232_221 : decode prog_14_method_41_code 221 = .ok (.aload_n 0, 1) := by decide +kernel
theorem d232_222 : decode prog_14_method_41_code 222 = .ok (.invokevirtual 334, 3) := by decide +kernel
theorem d232_225 : decode prog_14_method_41_code 225 = .ok (.goto 8, 3) := by decide +kernel
theorem d232_228 : decode prog_14_method_41_code 228 = .ok (.aload_n 0, 1) := by decide +kernel
theorem d232_229 : decode prog_14_method_41_code 229 = .ok (.iload_n 2, 1) := by decide +kernel
theorem d232_230 : decode prog_14_method_41_code 230 = .ok (.invokevirtual 363, 3) := by decide +kernel
theorem d232_233 : decode prog_14_method_41_code 233 = .ok (.aload_n 0, 1) := by decide +kernel
theorem d232_234 : decode prog_14_method_41_code 234 = .ok (.sipush 400, 3) := by decide +kernel
theorem d232_237 : decode prog_14_method_41_code 237 = .ok (.invokevirtual 353, 3) := by decide +kernel
theorem d232_240 : decode prog_14_method_41_code 240 = .ok (.ifCond .eq 8, 3) := by decide +kernel
theorem d232_243 : decode prog_14_method_41_code 243 = .ok (.aload_n 0, 1) := by decide +kernel
theorem d232_244 : decode prog_14_method_41_code 244 = .ok (.iload_n 2, 1) := by decide +kernel
theorem d232_245 : decode prog_14_method_41_code 245 = .ok (.invokevirtual 360, 3) := by decide +kernel
theorem d232_248 : decode prog_14_method_41_code 248 = .ok (.aload_n 0, 1) := by decide +kernel
theorem d232_249 : decode prog_14_method_41_code 249 = .ok (.sipush 259, 3) := by decide +kernel
theorem d232_252 : decode prog_14_method_41_code 252 = .ok (.invokevirtual 340, 3) := by decide +kernel
theorem d232_255 : decode prog_14_method_41_code 255 = .ok (.return_, 1) := by decide +kernel
theorem m232 : pm_m 232 = some (⟨"TypeRulesModel", "declaration", "(I)V"⟩, prog_14_method_41_code, 6, none, 10, 1, 11) := rfl
/-! declarations -/
def xd_r (T : pg_T) : pg_P := pg_seq (pg_ite (pg_is T 10) (pg_seq (pg_tok pg_stp) (pg_leaf T 7 (pg_v T) (pg_exp T 43))) pg_nil)
  (pg_seq (pg_tok (pg_exp T 58)) (pg_seq (pg_ite (pg_is T 14) (pg_array T) (pg_ite (pg_is T 41) (pg_leaf T 10 (pg_v T) pg_stp) (pg_simple T)))
  (pg_seq (pg_ite (pg_is T 47) (pg_seq (pg_tok pg_stp) (pg_const T)) pg_nil) (pg_tok (pg_exp T 57)))))
def xd_n (T : pg_T) (kk : Nat) : pg_P := pg_seq (pg_name T) (pg_whl (pg_is T 56) (pg_seq (pg_tok pg_stp) (pg_name T)) kk)
theorem xd_s (k : Nat) (p : pg_C → Nat) (v : pg_C → Int32) (a b r : pg_P) (c : pg_C) : pg_node k p v (pg_seq a (pg_seq b r)) c = ((r (pg_seq a b c).1).1, (k, p c, v c, ((pg_seq a b c).2 ++ (r (pg_seq a b c).1).2).length + 1) :: ((pg_seq a b c).2 ++ (r (pg_seq a b c).1).2)) := by
  rw [pg_node_c]
  simp only [pg_seq_c, List.append_assoc]
theorem pg_decl_c (T : pg_T) (c : pg_C) : pg_decl T c = ((xd_r T (xd_n T pg_M c).1).1, (5, pg_pl T c, 0, ((xd_n T pg_M c).2 ++ (xd_r T (xd_n T pg_M c).1).2).length + 1) :: ((xd_n T pg_M c).2 ++ (xd_r T (xd_n T pg_M c).1).2)) := by
  unfold pg_decl xd_n xd_r
  exact xd_s 5 _ _ _ _ _ c
theorem rps232 {d : Nat} {Q : Option Value → pm_S → Prop} {t : Nat → Nat} {M n : Nat} {σ : pm_S} {h : rp_H} {c : pg_C} {s to : Nat} {a1 a3 a4 a5 : Value} (hN : rp_n t M n) (hs : s ≤ 2800) (ht : to < h.1) (hS : rp_S t M n σ c h s) (hQ : ∀ σ' h', rp_S t M n σ' (xd_r (pt_T t M n) c).1 h' (s + 8) → rp_E t M n σ h σ' h' to (xd_r (pt_T t M n) c).2 → Q none σ') : pm_WP pm_Y0 (pm_call pm_Y0 (d + 9)) 10 prog_14_method_41_code none Q 77 [.ref 10, a1, .int (nI to), a3, a4, a5] [] σ := by
  have e0 := rp_b0 ht hS
  refine wq_l 78 d232_77 rfl rfl rfl rfl ?_
  refine wq_k 80 110 d232_78 (by decide) rfl ?_
  refine wq_v 83 [_] d232_80 rfl rfl m233 rfl rfl (Nat.le_of_ble_eq_true rfl) rfl (rp_take (k := 10) hN (by decide) (by decide) hS (fun σ80 h80 k80 => ?_))
  have e80 := rp_Et ht e0 (rp_Ek k80)
  refine wq_b 115 86 d232_83 rfl (by decide) rfl (fun c83 => ?_) (fun c83 => ?_)
  · -- pc 115
    have f83 := b2z c83
    rw [f83, if_neg (by decide)] at h80
    refine wq_l 116 d232_115 rfl rfl rfl rfl ?_
    refine wq_k 119 258 d232_116 (by decide) rfl ?_
    refine wq_v 122 [_] d232_119 rfl rfl m229 rfl rfl (Nat.le_of_ble_eq_true rfl) rfl (rp_want (k := 58) hN (by decide) (by decide) h80 (fun σ119 h119 k119 => ?_))
    have e119 := rp_Et ht e80 (rp_Ek k119)
    refine wq_l 123 d232_122 rfl rfl rfl rfl ?_
    refine wq_k 125 114 d232_123 (by decide) rfl ?_
    refine wq_v 128 [_] d232_125 rfl rfl m224 rfl rfl (Nat.le_of_ble_eq_true rfl) rfl (rp_is (k := 14) hN (by decide) (by decide) h119 ?_)
    refine wq_b 197 131 d232_128 rfl (by decide) rfl (fun c128 => ?_) (fun c128 => ?_)
    · -- pc 197
      have f128 := b2z c128
      refine wq_l 198 d232_197 rfl rfl rfl rfl ?_
      refine wq_k 199 1 d232_198 (by decide) rfl ?_
      refine wq_v 202 [_] d232_199 rfl rfl m224 rfl rfl (Nat.le_of_ble_eq_true rfl) rfl (rp_is (k := 41) hN (by decide) (by decide) h119 ?_)
      refine wq_b 228 205 d232_202 rfl (by decide) rfl (fun c202 => ?_) (fun c202 => ?_)
      · -- pc 228
        have f202 := b2z c202
        refine wq_l 229 d232_228 rfl rfl rfl rfl ?_
        refine wq_l 230 d232_229 rfl rfl rfl rfl ?_
        refine wq_v 233 [_] d232_230 rfl rfl m231 rfl rfl (Nat.le_of_ble_eq_true rfl) rfl (rp231 hN (by omega) (Nat.lt_of_lt_of_le ht e119.2.1) h119 (fun σ230 q230 h230 e230x => ?_))
        have e230 := rp_Et ht e119 (e230x)
        refine wq_l 234 d232_233 rfl rfl rfl rfl ?_
        refine wq_k 237 400 d232_234 (by decide) rfl ?_
        refine wq_v 240 [_] d232_237 rfl rfl m233 rfl rfl (Nat.le_of_ble_eq_true rfl) rfl (rp_take (k := 47) hN (by decide) (by decide) h230 (fun σ237 h237 k237 => ?_))
        have e237 := rp_Et ht e230 (rp_Ek k237)
        refine wq_b 248 243 d232_240 rfl (by decide) rfl (fun c240 => ?_) (fun c240 => ?_)
        · -- pc 248
          have f240 := b2z c240
          rw [f240, if_neg (by decide)] at h237
          refine wq_l 249 d232_248 rfl rfl rfl rfl ?_
          refine wq_k 252 259 d232_249 (by decide) rfl ?_
          refine wq_v 255 [_] d232_252 rfl rfl m229 rfl rfl (Nat.le_of_ble_eq_true rfl) rfl (rp_want (k := 57) hN (by decide) (by decide) h237 (fun σ252 h252 k252 => ?_))
          have e252 := rp_Et ht e237 (rp_Ek k252)
          refine wq_rv d232_255 ?_
          exact hQ _ _ (rp_Se h252 (by first | (simp only [xd_r, pg_seq, pg_ite, pg_tok, pg_nil, pg_leaf, pg_array, pg_node, if_true, if_false, Bool.false_eq_true, Bool.true_eq_false, ite_self, f83, f128, f202, f240]; done)) (by omega)) (rp_Ee e252 (by first | (simp only [xd_r, pg_seq, pg_ite, pg_tok, pg_nil, pg_leaf, pg_array, pg_node, if_true, if_false, Bool.false_eq_true, Bool.true_eq_false, ite_self, List.append_assoc, List.nil_append, List.append_nil, List.cons_append, List.singleton_append, List.length_append, List.length_cons, List.length_nil, List.length_singleton, Nat.zero_add, Nat.reduceAdd, f83, f128, f202, f240]; done)))
        · -- pc 243
          have f240 := b2n c240
          rw [f240, if_pos rfl] at h237
          refine wq_l 244 d232_243 rfl rfl rfl rfl ?_
          refine wq_l 245 d232_244 rfl rfl rfl rfl ?_
          refine wq_v 248 [_] d232_245 rfl rfl m234 rfl rfl (Nat.le_of_ble_eq_true rfl) rfl (rp234 hN (by omega) (Nat.lt_of_lt_of_le ht e237.2.1) h237 (fun σ245 q245 h245 e245x => ?_))
          have e245 := rp_Et ht e237 (e245x)
          skip
          refine wq_l 249 d232_248 rfl rfl rfl rfl ?_
          refine wq_k 252 259 d232_249 (by decide) rfl ?_
          refine wq_v 255 [_] d232_252 rfl rfl m229 rfl rfl (Nat.le_of_ble_eq_true rfl) rfl (rp_want (k := 57) hN (by decide) (by decide) h245 (fun σ252 h252 k252 => ?_))
          have e252 := rp_Et ht e245 (rp_Ek k252)
          refine wq_rv d232_255 ?_
          exact hQ _ _ (rp_Se h252 (by first | (simp only [xd_r, pg_seq, pg_ite, pg_tok, pg_nil, pg_leaf, pg_array, pg_node, if_true, if_false, Bool.false_eq_true, Bool.true_eq_false, ite_self, f83, f128, f202, f240]; done)) (by omega)) (rp_Ee e252 (by first | (simp only [xd_r, pg_seq, pg_ite, pg_tok, pg_nil, pg_leaf, pg_array, pg_node, if_true, if_false, Bool.false_eq_true, Bool.true_eq_false, ite_self, List.append_assoc, List.nil_append, List.append_nil, List.cons_append, List.singleton_append, List.length_append, List.length_cons, List.length_nil, List.length_singleton, Nat.zero_add, Nat.reduceAdd, f83, f128, f202, f240]; done)))
      · -- pc 205
        have f202 := b2n c202
        refine wq_l 206 d232_205 rfl rfl rfl rfl ?_
        refine wq_l 207 d232_206 rfl rfl rfl rfl ?_
        refine wq_k 209 10 d232_207 (by decide) rfl ?_
        refine wq_l 210 d232_209 rfl rfl rfl rfl ?_
        refine wq_gi (ci := 10) (j := 4) 213 d232_210 rfl rfl rfl rfl ?_
        refine wq_l 214 d232_213 rfl rfl rfl rfl ?_
        refine wq_gi (ci := 10) (j := 5) 217 d232_214 rfl rfl rfl rfl ?_
        refine wq_v 220 [_, _, _, _] d232_217 rfl rfl m226 rfl rfl (Nat.le_of_ble_eq_true rfl) rfl (rp_mkin (to := to) hN (by omega) (Nat.lt_of_lt_of_le ht e119.2.1) h119 (fun σ217 h217 m217 => ?_))
        have e217o := rp_h0 h217
        have m217c := rp_Et ht e119 (rp_Mn (k := 10) (Nat.lt_of_lt_of_le ht e119.2.1) m217 e217o (fun z => ⟨rfl, rp_pl h119 (m217.2.1 z), rp_nm2 (by decide) h119 f202⟩))
        refine wq_a 221 d232_220 rfl rfl ?_
        refine wq_l 222 d232_221 rfl rfl rfl rfl ?_
        refine wq_v 225 [] d232_222 rfl rfl m203 rfl rfl (Nat.le_of_ble_eq_true rfl) rfl (rp_go hN (pg_isl f202 (by decide)) h217 (fun σ222 h222 k222 => ?_))
        have e222 := rp_Et ht m217c (rp_Ek k222)
        refine wq_g 233 d232_225 (by decide) ?_
        refine wq_l 234 d232_233 rfl rfl rfl rfl ?_
        refine wq_k 237 400 d232_234 (by decide) rfl ?_
        refine wq_v 240 [_] d232_237 rfl rfl m233 rfl rfl (Nat.le_of_ble_eq_true rfl) rfl (rp_take (k := 47) hN (by decide) (by decide) h222 (fun σ237 h237 k237 => ?_))
        have e237 := rp_Et ht e222 (rp_Ek k237)
        refine wq_b 248 243 d232_240 rfl (by decide) rfl (fun c240 => ?_) (fun c240 => ?_)
        · -- pc 248
          have f240 := b2z c240
          rw [f240, if_neg (by decide)] at h237
          refine wq_l 249 d232_248 rfl rfl rfl rfl ?_
          refine wq_k 252 259 d232_249 (by decide) rfl ?_
          refine wq_v 255 [_] d232_252 rfl rfl m229 rfl rfl (Nat.le_of_ble_eq_true rfl) rfl (rp_want (k := 57) hN (by decide) (by decide) h237 (fun σ252 h252 k252 => ?_))
          have e252 := rp_Et ht e237 (rp_Ek k252)
          refine wq_rv d232_255 ?_
          exact hQ _ _ (rp_Se h252 (by first | (simp only [xd_r, pg_seq, pg_ite, pg_tok, pg_nil, pg_leaf, pg_array, pg_node, if_true, if_false, Bool.false_eq_true, Bool.true_eq_false, ite_self, f83, f128, f202, f240]; done)) (by omega)) (rp_Ee e252 (by first | (simp only [xd_r, pg_seq, pg_ite, pg_tok, pg_nil, pg_leaf, pg_array, pg_node, if_true, if_false, Bool.false_eq_true, Bool.true_eq_false, ite_self, List.append_assoc, List.nil_append, List.append_nil, List.cons_append, List.singleton_append, List.length_append, List.length_cons, List.length_nil, List.length_singleton, Nat.zero_add, Nat.reduceAdd, f83, f128, f202, f240]; done)))
        · -- pc 243
          have f240 := b2n c240
          rw [f240, if_pos rfl] at h237
          refine wq_l 244 d232_243 rfl rfl rfl rfl ?_
          refine wq_l 245 d232_244 rfl rfl rfl rfl ?_
          refine wq_v 248 [_] d232_245 rfl rfl m234 rfl rfl (Nat.le_of_ble_eq_true rfl) rfl (rp234 hN (by omega) (Nat.lt_of_lt_of_le ht e237.2.1) h237 (fun σ245 q245 h245 e245x => ?_))
          have e245 := rp_Et ht e237 (e245x)
          skip
          refine wq_l 249 d232_248 rfl rfl rfl rfl ?_
          refine wq_k 252 259 d232_249 (by decide) rfl ?_
          refine wq_v 255 [_] d232_252 rfl rfl m229 rfl rfl (Nat.le_of_ble_eq_true rfl) rfl (rp_want (k := 57) hN (by decide) (by decide) h245 (fun σ252 h252 k252 => ?_))
          have e252 := rp_Et ht e245 (rp_Ek k252)
          refine wq_rv d232_255 ?_
          exact hQ _ _ (rp_Se h252 (by first | (simp only [xd_r, pg_seq, pg_ite, pg_tok, pg_nil, pg_leaf, pg_array, pg_node, if_true, if_false, Bool.false_eq_true, Bool.true_eq_false, ite_self, f83, f128, f202, f240]; done)) (by omega)) (rp_Ee e252 (by first | (simp only [xd_r, pg_seq, pg_ite, pg_tok, pg_nil, pg_leaf, pg_array, pg_node, if_true, if_false, Bool.false_eq_true, Bool.true_eq_false, ite_self, List.append_assoc, List.nil_append, List.append_nil, List.cons_append, List.singleton_append, List.length_append, List.length_cons, List.length_nil, List.length_singleton, Nat.zero_add, Nat.reduceAdd, f83, f128, f202, f240]; done)))
    · -- pc 131
      have f128 := b2n c128
      refine wq_l 132 d232_131 rfl rfl rfl rfl ?_
      refine wq_l 133 d232_132 rfl rfl rfl rfl ?_
      refine wq_k 135 9 d232_133 (by decide) rfl ?_
      refine wq_l 136 d232_135 rfl rfl rfl rfl ?_
      refine wq_gi (ci := 10) (j := 4) 139 d232_136 rfl rfl rfl rfl ?_
      refine wq_k 140 0 d232_139 (by decide) rfl ?_
      refine wq_v 143 [_, _, _, _] d232_140 rfl rfl m226 rfl rfl (Nat.le_of_ble_eq_true rfl) rfl (rp_mkin (to := to) hN (by omega) (Nat.lt_of_lt_of_le ht e119.2.1) h119 (fun σ140 h140 m140 => ?_))
      have e140o := rp_h0 h140
      refine wq_s 145 d232_143 rfl rfl (Nat.le_of_ble_eq_true rfl) rfl rfl ?_
      refine wq_l 146 d232_145 rfl rfl rfl rfl ?_
      refine wq_v 149 [] d232_146 rfl rfl m203 rfl rfl (Nat.le_of_ble_eq_true rfl) rfl (rp_go hN (pg_isl f128 (by decide)) h140 (fun σ146 h146 k146 => ?_))
      have e146 := rp_Et rp_li e140o (rp_Ek k146)
      refine wq_l 150 d232_149 rfl rfl rfl rfl ?_
      refine wq_k 153 291 d232_150 (by decide) rfl ?_
      refine wq_v 156 [_] d232_153 rfl rfl m229 rfl rfl (Nat.le_of_ble_eq_true rfl) rfl (rp_want (k := 54) hN (by decide) (by decide) h146 (fun σ153 h153 k153 => ?_))
      have e153 := rp_Et rp_li e146 (rp_Ek k153)
      refine wq_l 157 d232_156 rfl rfl rfl rfl ?_
      refine wq_l 159 d232_157 rfl rfl rfl rfl ?_
      refine wq_v 162 [_] d232_159 rfl rfl m234 rfl rfl (Nat.le_of_ble_eq_true rfl) rfl (rp234 hN (by omega) (Nat.lt_of_lt_of_le rp_li e153.2.1) h153 (fun σ159 q159 h159 e159x => ?_))
      have e159 := rp_Et rp_li e153 (e159x)
      refine wq_l 163 d232_162 rfl rfl rfl rfl ?_
      refine wq_k 166 401 d232_163 (by decide) rfl ?_
      refine wq_v 169 [_] d232_166 rfl rfl m229 rfl rfl (Nat.le_of_ble_eq_true rfl) rfl (rp_want (k := 48) hN (by decide) (by decide) h159 (fun σ166 h166 k166 => ?_))
      have e166 := rp_Et rp_li e159 (rp_Ek k166)
      refine wq_l 170 d232_169 rfl rfl rfl rfl ?_
      refine wq_l 172 d232_170 rfl rfl rfl rfl ?_
      refine wq_v 175 [_] d232_172 rfl rfl m234 rfl rfl (Nat.le_of_ble_eq_true rfl) rfl (rp234 hN (by omega) (Nat.lt_of_lt_of_le rp_li e166.2.1) h166 (fun σ172 q172 h172 e172x => ?_))
      have e172 := rp_Et rp_li e166 (e172x)
      refine wq_l 176 d232_175 rfl rfl rfl rfl ?_
      refine wq_k 179 293 d232_176 (by decide) rfl ?_
      refine wq_v 182 [_] d232_179 rfl rfl m229 rfl rfl (Nat.le_of_ble_eq_true rfl) rfl (rp_want (k := 55) hN (by decide) (by decide) h172 (fun σ179 h179 k179 => ?_))
      have e179 := rp_Et rp_li e172 (rp_Ek k179)
      refine wq_l 183 d232_182 rfl rfl rfl rfl ?_
      refine wq_k 185 115 d232_183 (by decide) rfl ?_
      refine wq_v 188 [_] d232_185 rfl rfl m229 rfl rfl (Nat.le_of_ble_eq_true rfl) rfl (rp_want (k := 15) hN (by decide) (by decide) h179 (fun σ185 h185 k185 => ?_))
      have e185 := rp_Et rp_li e179 (rp_Ek k185)
      refine wq_l 189 d232_188 rfl rfl rfl rfl ?_
      refine wq_l 191 d232_189 rfl rfl rfl rfl ?_
      refine wq_v 194 [_] d232_191 rfl rfl m231 rfl rfl (Nat.le_of_ble_eq_true rfl) rfl (rp231 hN (by omega) (Nat.lt_of_lt_of_le rp_li e185.2.1) h185 (fun σ191 q191 h191 e191x => ?_))
      have e191 := rp_Et rp_li e185 (e191x)
      have m140c := rp_Et ht e119 (rp_Mn (k := 9) (v := 0) (Nat.lt_of_lt_of_le ht e119.2.1) m140 e191 (fun z => ⟨rfl, rp_pl h119 (m140.2.1 (k146.2 (k153.2 (e159x.2.2.1 (k166.2 (e172x.2.2.1 (k179.2 (k185.2 (e191x.2.2.1 z))))))))), rp_V0 (by decide)⟩))
      refine wq_g 233 d232_194 (by decide) ?_
      refine wq_l 234 d232_233 rfl rfl rfl rfl ?_
      refine wq_k 237 400 d232_234 (by decide) rfl ?_
      refine wq_v 240 [_] d232_237 rfl rfl m233 rfl rfl (Nat.le_of_ble_eq_true rfl) rfl (rp_take (k := 47) hN (by decide) (by decide) h191 (fun σ237 h237 k237 => ?_))
      have e237 := rp_Et ht m140c (rp_Ek k237)
      refine wq_b 248 243 d232_240 rfl (by decide) rfl (fun c240 => ?_) (fun c240 => ?_)
      · -- pc 248
        have f240 := b2z c240
        rw [f240, if_neg (by decide)] at h237
        refine wq_l 249 d232_248 rfl rfl rfl rfl ?_
        refine wq_k 252 259 d232_249 (by decide) rfl ?_
        refine wq_v 255 [_] d232_252 rfl rfl m229 rfl rfl (Nat.le_of_ble_eq_true rfl) rfl (rp_want (k := 57) hN (by decide) (by decide) h237 (fun σ252 h252 k252 => ?_))
        have e252 := rp_Et ht e237 (rp_Ek k252)
        refine wq_rv d232_255 ?_
        exact hQ _ _ (rp_Se h252 (by first | (simp only [xd_r, pg_seq, pg_ite, pg_tok, pg_nil, pg_leaf, pg_array, pg_node, if_true, if_false, Bool.false_eq_true, Bool.true_eq_false, ite_self, f83, f128, f240]; done)) (by omega)) (rp_Ee e252 (by first | (simp only [xd_r, pg_seq, pg_ite, pg_tok, pg_nil, pg_leaf, pg_array, pg_node, if_true, if_false, Bool.false_eq_true, Bool.true_eq_false, ite_self, List.append_assoc, List.nil_append, List.append_nil, List.cons_append, List.singleton_append, List.length_append, List.length_cons, List.length_nil, List.length_singleton, Nat.zero_add, Nat.reduceAdd, f83, f128, f240]; done)))
      · -- pc 243
        have f240 := b2n c240
        rw [f240, if_pos rfl] at h237
        refine wq_l 244 d232_243 rfl rfl rfl rfl ?_
        refine wq_l 245 d232_244 rfl rfl rfl rfl ?_
        refine wq_v 248 [_] d232_245 rfl rfl m234 rfl rfl (Nat.le_of_ble_eq_true rfl) rfl (rp234 hN (by omega) (Nat.lt_of_lt_of_le ht e237.2.1) h237 (fun σ245 q245 h245 e245x => ?_))
        have e245 := rp_Et ht e237 (e245x)
        skip
        refine wq_l 249 d232_248 rfl rfl rfl rfl ?_
        refine wq_k 252 259 d232_249 (by decide) rfl ?_
        refine wq_v 255 [_] d232_252 rfl rfl m229 rfl rfl (Nat.le_of_ble_eq_true rfl) rfl (rp_want (k := 57) hN (by decide) (by decide) h245 (fun σ252 h252 k252 => ?_))
        have e252 := rp_Et ht e245 (rp_Ek k252)
        refine wq_rv d232_255 ?_
        exact hQ _ _ (rp_Se h252 (by first | (simp only [xd_r, pg_seq, pg_ite, pg_tok, pg_nil, pg_leaf, pg_array, pg_node, if_true, if_false, Bool.false_eq_true, Bool.true_eq_false, ite_self, f83, f128, f240]; done)) (by omega)) (rp_Ee e252 (by first | (simp only [xd_r, pg_seq, pg_ite, pg_tok, pg_nil, pg_leaf, pg_array, pg_node, if_true, if_false, Bool.false_eq_true, Bool.true_eq_false, ite_self, List.append_assoc, List.nil_append, List.append_nil, List.cons_append, List.singleton_append, List.length_append, List.length_cons, List.length_nil, List.length_singleton, Nat.zero_add, Nat.reduceAdd, f83, f128, f240]; done)))
  · -- pc 86
    have f83 := b2n c83
    rw [f83, if_pos rfl] at h80
    refine wq_l 87 d232_86 rfl rfl rfl rfl ?_
    refine wq_gi (ci := 10) (j := 4) 90 d232_87 rfl rfl rfl rfl ?_
    refine wq_s 92 d232_90 rfl rfl (Nat.le_of_ble_eq_true rfl) rfl rfl ?_
    refine wq_l 93 d232_92 rfl rfl rfl rfl ?_
    refine wq_gi (ci := 10) (j := 5) 96 d232_93 rfl rfl rfl rfl ?_
    refine wq_s 98 d232_96 rfl rfl (Nat.le_of_ble_eq_true rfl) rfl rfl ?_
    refine wq_l 99 d232_98 rfl rfl rfl rfl ?_
    refine wq_k 100 3 d232_99 (by decide) rfl ?_
    refine wq_v 103 [_] d232_100 rfl rfl m229 rfl rfl (Nat.le_of_ble_eq_true rfl) rfl (rp_want (k := 43) hN (by decide) (by decide) h80 (fun σ100 h100 k100 => ?_))
    have e100 := rp_Et ht e80 (rp_Ek k100)
    refine wq_l 104 d232_103 rfl rfl rfl rfl ?_
    refine wq_l 105 d232_104 rfl rfl rfl rfl ?_
    refine wq_k 107 7 d232_105 (by decide) rfl ?_
    refine wq_l 109 d232_107 rfl rfl rfl rfl ?_
    refine wq_l 111 d232_109 rfl rfl rfl rfl ?_
    refine wq_v 114 [_, _, _, _] d232_111 rfl rfl m226 rfl rfl (Nat.le_of_ble_eq_true rfl) rfl (rp_mkin (to := to) hN (by omega) (Nat.lt_of_lt_of_le ht e100.2.1) h100 (fun σ111 h111 m111 => ?_))
    have e111o := rp_h0 h111
    have m111c := rp_Et ht e100 (rp_Mn (k := 7) (Nat.lt_of_lt_of_le ht e100.2.1) m111 e111o (fun z => ⟨rfl, rp_pl h80 (k100.2 (m111.2.1 z)), (rp_nu (j := 43) (k := 7) (Or.inr rfl) (by decide) h80 h100 (m111.2.1 z)).2⟩))
    refine wq_a 115 d232_114 rfl rfl ?_
    skip
    refine wq_l 116 d232_115 rfl rfl rfl rfl ?_
    refine wq_k 119 258 d232_116 (by decide) rfl ?_
    refine wq_v 122 [_] d232_119 rfl rfl m229 rfl rfl (Nat.le_of_ble_eq_true rfl) rfl (rp_want (k := 58) hN (by decide) (by decide) h111 (fun σ119 h119 k119 => ?_))
    have e119 := rp_Et ht m111c (rp_Ek k119)
    refine wq_l 123 d232_122 rfl rfl rfl rfl ?_
    refine wq_k 125 114 d232_123 (by decide) rfl ?_
    refine wq_v 128 [_] d232_125 rfl rfl m224 rfl rfl (Nat.le_of_ble_eq_true rfl) rfl (rp_is (k := 14) hN (by decide) (by decide) h119 ?_)
    refine wq_b 197 131 d232_128 rfl (by decide) rfl (fun c128 => ?_) (fun c128 => ?_)
    · -- pc 197
      have f128 := b2z c128
      refine wq_l 198 d232_197 rfl rfl rfl rfl ?_
      refine wq_k 199 1 d232_198 (by decide) rfl ?_
      refine wq_v 202 [_] d232_199 rfl rfl m224 rfl rfl (Nat.le_of_ble_eq_true rfl) rfl (rp_is (k := 41) hN (by decide) (by decide) h119 ?_)
      refine wq_b 228 205 d232_202 rfl (by decide) rfl (fun c202 => ?_) (fun c202 => ?_)
      · -- pc 228
        have f202 := b2z c202
        refine wq_l 229 d232_228 rfl rfl rfl rfl ?_
        refine wq_l 230 d232_229 rfl rfl rfl rfl ?_
        refine wq_v 233 [_] d232_230 rfl rfl m231 rfl rfl (Nat.le_of_ble_eq_true rfl) rfl (rp231 hN (by omega) (Nat.lt_of_lt_of_le ht e119.2.1) h119 (fun σ230 q230 h230 e230x => ?_))
        have e230 := rp_Et ht e119 (e230x)
        refine wq_l 234 d232_233 rfl rfl rfl rfl ?_
        refine wq_k 237 400 d232_234 (by decide) rfl ?_
        refine wq_v 240 [_] d232_237 rfl rfl m233 rfl rfl (Nat.le_of_ble_eq_true rfl) rfl (rp_take (k := 47) hN (by decide) (by decide) h230 (fun σ237 h237 k237 => ?_))
        have e237 := rp_Et ht e230 (rp_Ek k237)
        refine wq_b 248 243 d232_240 rfl (by decide) rfl (fun c240 => ?_) (fun c240 => ?_)
        · -- pc 248
          have f240 := b2z c240
          rw [f240, if_neg (by decide)] at h237
          refine wq_l 249 d232_248 rfl rfl rfl rfl ?_
          refine wq_k 252 259 d232_249 (by decide) rfl ?_
          refine wq_v 255 [_] d232_252 rfl rfl m229 rfl rfl (Nat.le_of_ble_eq_true rfl) rfl (rp_want (k := 57) hN (by decide) (by decide) h237 (fun σ252 h252 k252 => ?_))
          have e252 := rp_Et ht e237 (rp_Ek k252)
          refine wq_rv d232_255 ?_
          exact hQ _ _ (rp_Se h252 (by first | (simp only [xd_r, pg_seq, pg_ite, pg_tok, pg_nil, pg_leaf, pg_array, pg_node, if_true, if_false, Bool.false_eq_true, Bool.true_eq_false, ite_self, f83, f128, f202, f240]; done)) (by omega)) (rp_Ee e252 (by first | (simp only [xd_r, pg_seq, pg_ite, pg_tok, pg_nil, pg_leaf, pg_array, pg_node, if_true, if_false, Bool.false_eq_true, Bool.true_eq_false, ite_self, List.append_assoc, List.nil_append, List.append_nil, List.cons_append, List.singleton_append, List.length_append, List.length_cons, List.length_nil, List.length_singleton, Nat.zero_add, Nat.reduceAdd, f83, f128, f202, f240]; done)))
        · -- pc 243
          have f240 := b2n c240
          rw [f240, if_pos rfl] at h237
          refine wq_l 244 d232_243 rfl rfl rfl rfl ?_
          refine wq_l 245 d232_244 rfl rfl rfl rfl ?_
          refine wq_v 248 [_] d232_245 rfl rfl m234 rfl rfl (Nat.le_of_ble_eq_true rfl) rfl (rp234 hN (by omega) (Nat.lt_of_lt_of_le ht e237.2.1) h237 (fun σ245 q245 h245 e245x => ?_))
          have e245 := rp_Et ht e237 (e245x)
          skip
          refine wq_l 249 d232_248 rfl rfl rfl rfl ?_
          refine wq_k 252 259 d232_249 (by decide) rfl ?_
          refine wq_v 255 [_] d232_252 rfl rfl m229 rfl rfl (Nat.le_of_ble_eq_true rfl) rfl (rp_want (k := 57) hN (by decide) (by decide) h245 (fun σ252 h252 k252 => ?_))
          have e252 := rp_Et ht e245 (rp_Ek k252)
          refine wq_rv d232_255 ?_
          exact hQ _ _ (rp_Se h252 (by first | (simp only [xd_r, pg_seq, pg_ite, pg_tok, pg_nil, pg_leaf, pg_array, pg_node, if_true, if_false, Bool.false_eq_true, Bool.true_eq_false, ite_self, f83, f128, f202, f240]; done)) (by omega)) (rp_Ee e252 (by first | (simp only [xd_r, pg_seq, pg_ite, pg_tok, pg_nil, pg_leaf, pg_array, pg_node, if_true, if_false, Bool.false_eq_true, Bool.true_eq_false, ite_self, List.append_assoc, List.nil_append, List.append_nil, List.cons_append, List.singleton_append, List.length_append, List.length_cons, List.length_nil, List.length_singleton, Nat.zero_add, Nat.reduceAdd, f83, f128, f202, f240]; done)))
      · -- pc 205
        have f202 := b2n c202
        refine wq_l 206 d232_205 rfl rfl rfl rfl ?_
        refine wq_l 207 d232_206 rfl rfl rfl rfl ?_
        refine wq_k 209 10 d232_207 (by decide) rfl ?_
        refine wq_l 210 d232_209 rfl rfl rfl rfl ?_
        refine wq_gi (ci := 10) (j := 4) 213 d232_210 rfl rfl rfl rfl ?_
        refine wq_l 214 d232_213 rfl rfl rfl rfl ?_
        refine wq_gi (ci := 10) (j := 5) 217 d232_214 rfl rfl rfl rfl ?_
        refine wq_v 220 [_, _, _, _] d232_217 rfl rfl m226 rfl rfl (Nat.le_of_ble_eq_true rfl) rfl (rp_mkin (to := to) hN (by omega) (Nat.lt_of_lt_of_le ht e119.2.1) h119 (fun σ217 h217 m217 => ?_))
        have e217o := rp_h0 h217
        have m217c := rp_Et ht e119 (rp_Mn (k := 10) (Nat.lt_of_lt_of_le ht e119.2.1) m217 e217o (fun z => ⟨rfl, rp_pl h119 (m217.2.1 z), rp_nm2 (by decide) h119 f202⟩))
        refine wq_a 221 d232_220 rfl rfl ?_
        refine wq_l 222 d232_221 rfl rfl rfl rfl ?_
        refine wq_v 225 [] d232_222 rfl rfl m203 rfl rfl (Nat.le_of_ble_eq_true rfl) rfl (rp_go hN (pg_isl f202 (by decide)) h217 (fun σ222 h222 k222 => ?_))
        have e222 := rp_Et ht m217c (rp_Ek k222)
        refine wq_g 233 d232_225 (by decide) ?_
        refine wq_l 234 d232_233 rfl rfl rfl rfl ?_
        refine wq_k 237 400 d232_234 (by decide) rfl ?_
        refine wq_v 240 [_] d232_237 rfl rfl m233 rfl rfl (Nat.le_of_ble_eq_true rfl) rfl (rp_take (k := 47) hN (by decide) (by decide) h222 (fun σ237 h237 k237 => ?_))
        have e237 := rp_Et ht e222 (rp_Ek k237)
        refine wq_b 248 243 d232_240 rfl (by decide) rfl (fun c240 => ?_) (fun c240 => ?_)
        · -- pc 248
          have f240 := b2z c240
          rw [f240, if_neg (by decide)] at h237
          refine wq_l 249 d232_248 rfl rfl rfl rfl ?_
          refine wq_k 252 259 d232_249 (by decide) rfl ?_
          refine wq_v 255 [_] d232_252 rfl rfl m229 rfl rfl (Nat.le_of_ble_eq_true rfl) rfl (rp_want (k := 57) hN (by decide) (by decide) h237 (fun σ252 h252 k252 => ?_))
          have e252 := rp_Et ht e237 (rp_Ek k252)
          refine wq_rv d232_255 ?_
          exact hQ _ _ (rp_Se h252 (by first | (simp only [xd_r, pg_seq, pg_ite, pg_tok, pg_nil, pg_leaf, pg_array, pg_node, if_true, if_false, Bool.false_eq_true, Bool.true_eq_false, ite_self, f83, f128, f202, f240]; done)) (by omega)) (rp_Ee e252 (by first | (simp only [xd_r, pg_seq, pg_ite, pg_tok, pg_nil, pg_leaf, pg_array, pg_node, if_true, if_false, Bool.false_eq_true, Bool.true_eq_false, ite_self, List.append_assoc, List.nil_append, List.append_nil, List.cons_append, List.singleton_append, List.length_append, List.length_cons, List.length_nil, List.length_singleton, Nat.zero_add, Nat.reduceAdd, f83, f128, f202, f240]; done)))
        · -- pc 243
          have f240 := b2n c240
          rw [f240, if_pos rfl] at h237
          refine wq_l 244 d232_243 rfl rfl rfl rfl ?_
          refine wq_l 245 d232_244 rfl rfl rfl rfl ?_
          refine wq_v 248 [_] d232_245 rfl rfl m234 rfl rfl (Nat.le_of_ble_eq_true rfl) rfl (rp234 hN (by omega) (Nat.lt_of_lt_of_le ht e237.2.1) h237 (fun σ245 q245 h245 e245x => ?_))
          have e245 := rp_Et ht e237 (e245x)
          skip
          refine wq_l 249 d232_248 rfl rfl rfl rfl ?_
          refine wq_k 252 259 d232_249 (by decide) rfl ?_
          refine wq_v 255 [_] d232_252 rfl rfl m229 rfl rfl (Nat.le_of_ble_eq_true rfl) rfl (rp_want (k := 57) hN (by decide) (by decide) h245 (fun σ252 h252 k252 => ?_))
          have e252 := rp_Et ht e245 (rp_Ek k252)
          refine wq_rv d232_255 ?_
          exact hQ _ _ (rp_Se h252 (by first | (simp only [xd_r, pg_seq, pg_ite, pg_tok, pg_nil, pg_leaf, pg_array, pg_node, if_true, if_false, Bool.false_eq_true, Bool.true_eq_false, ite_self, f83, f128, f202, f240]; done)) (by omega)) (rp_Ee e252 (by first | (simp only [xd_r, pg_seq, pg_ite, pg_tok, pg_nil, pg_leaf, pg_array, pg_node, if_true, if_false, Bool.false_eq_true, Bool.true_eq_false, ite_self, List.append_assoc, List.nil_append, List.append_nil, List.cons_append, List.singleton_append, List.length_append, List.length_cons, List.length_nil, List.length_singleton, Nat.zero_add, Nat.reduceAdd, f83, f128, f202, f240]; done)))
    · -- pc 131
      have f128 := b2n c128
      refine wq_l 132 d232_131 rfl rfl rfl rfl ?_
      refine wq_l 133 d232_132 rfl rfl rfl rfl ?_
      refine wq_k 135 9 d232_133 (by decide) rfl ?_
      refine wq_l 136 d232_135 rfl rfl rfl rfl ?_
      refine wq_gi (ci := 10) (j := 4) 139 d232_136 rfl rfl rfl rfl ?_
      refine wq_k 140 0 d232_139 (by decide) rfl ?_
      refine wq_v 143 [_, _, _, _] d232_140 rfl rfl m226 rfl rfl (Nat.le_of_ble_eq_true rfl) rfl (rp_mkin (to := to) hN (by omega) (Nat.lt_of_lt_of_le ht e119.2.1) h119 (fun σ140 h140 m140 => ?_))
      have e140o := rp_h0 h140
      refine wq_s 145 d232_143 rfl rfl (Nat.le_of_ble_eq_true rfl) rfl rfl ?_
      refine wq_l 146 d232_145 rfl rfl rfl rfl ?_
      refine wq_v 149 [] d232_146 rfl rfl m203 rfl rfl (Nat.le_of_ble_eq_true rfl) rfl (rp_go hN (pg_isl f128 (by decide)) h140 (fun σ146 h146 k146 => ?_))
      have e146 := rp_Et rp_li e140o (rp_Ek k146)
      refine wq_l 150 d232_149 rfl rfl rfl rfl ?_
      refine wq_k 153 291 d232_150 (by decide) rfl ?_
      refine wq_v 156 [_] d232_153 rfl rfl m229 rfl rfl (Nat.le_of_ble_eq_true rfl) rfl (rp_want (k := 54) hN (by decide) (by decide) h146 (fun σ153 h153 k153 => ?_))
      have e153 := rp_Et rp_li e146 (rp_Ek k153)
      refine wq_l 157 d232_156 rfl rfl rfl rfl ?_
      refine wq_l 159 d232_157 rfl rfl rfl rfl ?_
      refine wq_v 162 [_] d232_159 rfl rfl m234 rfl rfl (Nat.le_of_ble_eq_true rfl) rfl (rp234 hN (by omega) (Nat.lt_of_lt_of_le rp_li e153.2.1) h153 (fun σ159 q159 h159 e159x => ?_))
      have e159 := rp_Et rp_li e153 (e159x)
      refine wq_l 163 d232_162 rfl rfl rfl rfl ?_
      refine wq_k 166 401 d232_163 (by decide) rfl ?_
      refine wq_v 169 [_] d232_166 rfl rfl m229 rfl rfl (Nat.le_of_ble_eq_true rfl) rfl (rp_want (k := 48) hN (by decide) (by decide) h159 (fun σ166 h166 k166 => ?_))
      have e166 := rp_Et rp_li e159 (rp_Ek k166)
      refine wq_l 170 d232_169 rfl rfl rfl rfl ?_
      refine wq_l 172 d232_170 rfl rfl rfl rfl ?_
      refine wq_v 175 [_] d232_172 rfl rfl m234 rfl rfl (Nat.le_of_ble_eq_true rfl) rfl (rp234 hN (by omega) (Nat.lt_of_lt_of_le rp_li e166.2.1) h166 (fun σ172 q172 h172 e172x => ?_))
      have e172 := rp_Et rp_li e166 (e172x)
      refine wq_l 176 d232_175 rfl rfl rfl rfl ?_
      refine wq_k 179 293 d232_176 (by decide) rfl ?_
      refine wq_v 182 [_] d232_179 rfl rfl m229 rfl rfl (Nat.le_of_ble_eq_true rfl) rfl (rp_want (k := 55) hN (by decide) (by decide) h172 (fun σ179 h179 k179 => ?_))
      have e179 := rp_Et rp_li e172 (rp_Ek k179)
      refine wq_l 183 d232_182 rfl rfl rfl rfl ?_
      refine wq_k 185 115 d232_183 (by decide) rfl ?_
      refine wq_v 188 [_] d232_185 rfl rfl m229 rfl rfl (Nat.le_of_ble_eq_true rfl) rfl (rp_want (k := 15) hN (by decide) (by decide) h179 (fun σ185 h185 k185 => ?_))
      have e185 := rp_Et rp_li e179 (rp_Ek k185)
      refine wq_l 189 d232_188 rfl rfl rfl rfl ?_
      refine wq_l 191 d232_189 rfl rfl rfl rfl ?_
      refine wq_v 194 [_] d232_191 rfl rfl m231 rfl rfl (Nat.le_of_ble_eq_true rfl) rfl (rp231 hN (by omega) (Nat.lt_of_lt_of_le rp_li e185.2.1) h185 (fun σ191 q191 h191 e191x => ?_))
      have e191 := rp_Et rp_li e185 (e191x)
      have m140c := rp_Et ht e119 (rp_Mn (k := 9) (v := 0) (Nat.lt_of_lt_of_le ht e119.2.1) m140 e191 (fun z => ⟨rfl, rp_pl h119 (m140.2.1 (k146.2 (k153.2 (e159x.2.2.1 (k166.2 (e172x.2.2.1 (k179.2 (k185.2 (e191x.2.2.1 z))))))))), rp_V0 (by decide)⟩))
      refine wq_g 233 d232_194 (by decide) ?_
      refine wq_l 234 d232_233 rfl rfl rfl rfl ?_
      refine wq_k 237 400 d232_234 (by decide) rfl ?_
      refine wq_v 240 [_] d232_237 rfl rfl m233 rfl rfl (Nat.le_of_ble_eq_true rfl) rfl (rp_take (k := 47) hN (by decide) (by decide) h191 (fun σ237 h237 k237 => ?_))
      have e237 := rp_Et ht m140c (rp_Ek k237)
      refine wq_b 248 243 d232_240 rfl (by decide) rfl (fun c240 => ?_) (fun c240 => ?_)
      · -- pc 248
        have f240 := b2z c240
        rw [f240, if_neg (by decide)] at h237
        refine wq_l 249 d232_248 rfl rfl rfl rfl ?_
        refine wq_k 252 259 d232_249 (by decide) rfl ?_
        refine wq_v 255 [_] d232_252 rfl rfl m229 rfl rfl (Nat.le_of_ble_eq_true rfl) rfl (rp_want (k := 57) hN (by decide) (by decide) h237 (fun σ252 h252 k252 => ?_))
        have e252 := rp_Et ht e237 (rp_Ek k252)
        refine wq_rv d232_255 ?_
        exact hQ _ _ (rp_Se h252 (by first | (simp only [xd_r, pg_seq, pg_ite, pg_tok, pg_nil, pg_leaf, pg_array, pg_node, if_true, if_false, Bool.false_eq_true, Bool.true_eq_false, ite_self, f83, f128, f240]; done)) (by omega)) (rp_Ee e252 (by first | (simp only [xd_r, pg_seq, pg_ite, pg_tok, pg_nil, pg_leaf, pg_array, pg_node, if_true, if_false, Bool.false_eq_true, Bool.true_eq_false, ite_self, List.append_assoc, List.nil_append, List.append_nil, List.cons_append, List.singleton_append, List.length_append, List.length_cons, List.length_nil, List.length_singleton, Nat.zero_add, Nat.reduceAdd, f83, f128, f240]; done)))
      · -- pc 243
        have f240 := b2n c240
        rw [f240, if_pos rfl] at h237
        refine wq_l 244 d232_243 rfl rfl rfl rfl ?_
        refine wq_l 245 d232_244 rfl rfl rfl rfl ?_
        refine wq_v 248 [_] d232_245 rfl rfl m234 rfl rfl (Nat.le_of_ble_eq_true rfl) rfl (rp234 hN (by omega) (Nat.lt_of_lt_of_le ht e237.2.1) h237 (fun σ245 q245 h245 e245x => ?_))
        have e245 := rp_Et ht e237 (e245x)
        skip
        refine wq_l 249 d232_248 rfl rfl rfl rfl ?_
        refine wq_k 252 259 d232_249 (by decide) rfl ?_
        refine wq_v 255 [_] d232_252 rfl rfl m229 rfl rfl (Nat.le_of_ble_eq_true rfl) rfl (rp_want (k := 57) hN (by decide) (by decide) h245 (fun σ252 h252 k252 => ?_))
        have e252 := rp_Et ht e245 (rp_Ek k252)
        refine wq_rv d232_255 ?_
        exact hQ _ _ (rp_Se h252 (by first | (simp only [xd_r, pg_seq, pg_ite, pg_tok, pg_nil, pg_leaf, pg_array, pg_node, if_true, if_false, Bool.false_eq_true, Bool.true_eq_false, ite_self, f83, f128, f240]; done)) (by omega)) (rp_Ee e252 (by first | (simp only [xd_r, pg_seq, pg_ite, pg_tok, pg_nil, pg_leaf, pg_array, pg_node, if_true, if_false, Bool.false_eq_true, Bool.true_eq_false, ite_self, List.append_assoc, List.nil_append, List.append_nil, List.cons_append, List.singleton_append, List.length_append, List.length_cons, List.length_nil, List.length_singleton, Nat.zero_add, Nat.reduceAdd, f83, f128, f240]; done)))
