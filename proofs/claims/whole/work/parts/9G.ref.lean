/-! what comes behind an operand -/
theorem xe_tkv {i : xm_I} {P : List xm_I} (h : i.1 ≤ 99) : (xe_tk (i :: P) = -1 ↔ i.1 = 99) ∧ (xe_tk (i :: P) = 34 ↔ i.1 = 34) ∧ (xe_tk (i :: P) = 32 ↔ i.1 = 32) ∧ ¬ xe_tk (i :: P) = -2 := by
  have ei := nI_toInt (n := i.1) (by omega)
  show ((if i.1 = 99 then (-1 : Int32) else nI i.1) = -1 ↔ i.1 = 99) ∧ ((if i.1 = 99 then (-1 : Int32) else nI i.1) = 34 ↔ i.1 = 34) ∧ ((if i.1 = 99 then (-1 : Int32) else nI i.1) = 32 ↔ i.1 = 32) ∧ ¬ (if i.1 = 99 then (-1 : Int32) else nI i.1) = -2
  by_cases q : i.1 = 99
  · rw [if_pos q, q]; decide
  · rw [if_neg q]
    simp only [i_lt, i_le, i_eq, ne_eq, Int32.reduceToInt, b2_0, b2_1, decide_eq_true_eq, decide_eq_false_iff_not, Bool.not_eq_true, Bool.not_eq_false, ei]
    omega
theorem xe250b {d : Nat} {Q : Option Value → pm_S → Prop} {t : Nat → Nat} {M n : Nat} {σ0 : pm_S} {h0 : rp_H} {o0 s : Nat} {σ : pm_S} {h : rp_H} {c : pg_C} {P : List xm_I} {O : List (List pg_N)} {b : Nat} (hN : rp_n t M n) (hs : s ≤ 2900) (hl : pg_live (pt_T t M n) c) (hol : O.length = xe_k P + 1) (ho : c.2.2 = o0 + b + xe_m P) (hkb : xe_k P ≤ b) (hpl : P.length < 380 ∧ O.length < 380) (B : xe_B t M n σ0 h0 σ h c s b P O []) (hQ : ∀ σ' h', xe_X t M n σ0 h0 o0 s σ' h' (xm_cl (pt_T t M n) c P O) → Q (some (.int (nI (xm_cl (pt_T t M n) c P O).1))) σ') : pm_WP pm_Y0 (pm_call pm_Y0 (d + 9)) 10 prog_14_method_55_code (some FieldType.int) Q 70 (pm_sto 0 (pm_en 4 [.ref 10]) 1 (.int (nI 0))) [] σ := by
  have hS1 := (xe_Bl B).2.2.2.1
  have h27 := (xe_Bl B).1
  have h29 := (xe_Bl B).2.1
  have hlb := xe_lb B
  have hbb := hS1.2.2
  cases P with
  | nil =>
    refine wq_l 71 d250_70 rfl rfl rfl rfl ?_
    refine wq_v 74 [] d250_71 rfl rfl m253 rfl rfl (Nat.le_of_ble_eq_true rfl) rfl (xe253 B (by decide) ?_)
    refine wq_s 75 d250_74 rfl rfl (Nat.le_of_ble_eq_true rfl) rfl rfl ?_
    refine wq_l 76 d250_75 rfl rfl rfl rfl ?_
    refine wq_k 78 (-2) d250_76 (by decide) rfl ?_
    refine wq_b 83 81 d250_78 rfl (by decide) rfl (fun c78 => absurd c78 (by show ¬ ¬ ((-2 : Int32) = -2); decide)) (fun c78 => ?_)
    refine wq_k 82 2 d250_81 (by decide) rfl ?_
    refine wq_ri d250_82 (rfl) ?_
    refine hQ _ _ (xe_Xm (k := 2) B (by omega) (fun z => ⟨hbb, ho, hkb, ?_⟩))
    rw [if_neg (by decide)]
    exact hol
  | cons i P =>
    obtain ⟨p1, p2, p3⟩ := xe_Bp B
    obtain ⟨t99, t34, t32, tm2⟩ := xe_tkv (P := P) p1
    obtain ⟨v, O', hOO⟩ : ∃ v O', O = v :: O' := by
      match O, hol with
      | [], z => cases z
      | v :: O', _ => exact ⟨v, O', rfl⟩
    subst hOO
    rw [xm_cl_c] at hQ
    have hpl1 : P.length + 1 < 380 := hpl.1
    have hpl2 : O'.length + 1 < 380 := hpl.2
    have hol : O'.length + 1 = xe_k (i :: P) + 1 := hol
    have h27 : σ.1 10 27 = nI (P.length + 1) := h27
    have h29 : σ.1 10 29 = nI (O'.length + 1) := h29
    have e2 := nI_toInt (n := P.length) (by omega)
    have e3 := nI_toInt (n := O'.length) (by omega)
    have ck := nI_clamp (n := P.length) (by omega)
    have co := nI_clamp (n := O'.length) (by omega)
    refine wq_l 71 d250_70 rfl rfl rfl rfl ?_
    refine wq_v 74 [] d250_71 rfl rfl m253 rfl rfl (Nat.le_of_ble_eq_true rfl) rfl (xe253 B (by rw [List.length_cons]; omega) ?_)
    refine wq_s 75 d250_74 rfl rfl (Nat.le_of_ble_eq_true rfl) rfl rfl ?_
    refine wq_l 76 d250_75 rfl rfl rfl rfl ?_
    refine wq_k 78 (-2) d250_76 (by decide) rfl ?_
    refine wq_b 83 81 d250_78 rfl (by decide) rfl (fun c78 => ?_) (fun c78 => absurd (tm2) c78)
    refine wq_l 84 d250_83 rfl rfl rfl rfl ?_
    refine wq_k 86 41 d250_84 (by decide) rfl ?_
    refine wq_v 89 [_] d250_86 rfl rfl m238 rfl rfl (Nat.le_of_ble_eq_true rfl) rfl (rp_sg (k := 53) hN (by decide) (by decide) hS1 ?_)
    refine wq_b 103 92 d250_89 rfl (by decide) rfl (fun c89 => ?_) (fun c89 => ?_)
    · -- pc 103
      have f89 := b2z c89
      refine wq_l 104 d250_103 rfl rfl rfl rfl ?_
      refine wq_k 106 93 d250_104 (by decide) rfl ?_
      refine wq_v 109 [_] d250_106 rfl rfl m238 rfl rfl (Nat.le_of_ble_eq_true rfl) rfl (rp_sg (k := 55) hN (by decide) (by decide) hS1 ?_)
      refine wq_b 198 112 d250_109 rfl (by decide) rfl (fun c109 => ?_) (fun c109 => ?_)
      · -- pc 198
        have f109 := b2z c109
        have hncl : ¬ ((pg_is (pt_T t M n) 53 c = true ∧ (i.1 = 99 ∨ i.1 = 34)) ∨ (pg_is (pt_T t M n) 55 c = true ∧ i.1 = 32)) := by
          rintro (⟨z1, z2 | z2⟩ | ⟨z1, z2⟩)
          · first | exact absurd (f89.symm.trans z1) (by decide) | exact c94 (t99.mpr z2)
          · first | exact absurd (f89.symm.trans z1) (by decide) | exact c100 (t34.mpr z2)
          · first | exact absurd (f109.symm.trans z1) (by decide) | exact c115 (t32.mpr z2)
        rw [if_neg hncl] at hQ
        refine wq_l 199 d250_198 rfl rfl rfl rfl ?_
        refine wq_k 201 44 d250_199 (by decide) rfl ?_
        refine wq_v 204 [_] d250_201 rfl rfl m238 rfl rfl (Nat.le_of_ble_eq_true rfl) rfl (rp_sg (k := 56) hN (by decide) (by decide) hS1 ?_)
        refine wq_b 253 207 d250_204 rfl (by decide) rfl (fun c204 => ?_) (fun c204 => ?_)
        · -- pc 253
          have f204 := b2z c204
          have hncm : ¬ (pg_is (pt_T t M n) 56 c = true ∧ i.1 = 34) := by
            rintro ⟨z1, z2⟩
            first | exact absurd (f204.symm.trans z1) (by decide) | exact c210 (t34.mpr z2)
          rw [if_neg hncm] at hQ
          refine wq_l 254 d250_253 rfl rfl rfl rfl ?_
          refine wq_v 257 [] d250_254 rfl rfl m230 rfl rfl (Nat.le_of_ble_eq_true rfl) rfl (rp_ref hN hS1 (fun σ4 h4 k4 => ?_))
          refine wq_k 258 2 d250_257 (by decide) rfl ?_
          refine wq_ri d250_258 (rfl) ?_
          exact hQ _ _ (xe_Xd (rp_Se h4 rfl (by omega)) (rp_Wk (xe_Bl B).2.2.2.2 k4) pg_stopd)
        · -- pc 207
          have f204 := b2n c204
          refine wq_l 208 d250_207 rfl rfl rfl rfl ?_
          refine wq_k 210 34 d250_208 (by decide) rfl ?_
          refine wq_b 253 213 d250_210 rfl (by decide) rfl (fun c210 => ?_) (fun c210 => ?_)
          · -- pc 253
            have hncm : ¬ (pg_is (pt_T t M n) 56 c = true ∧ i.1 = 34) := by
              rintro ⟨z1, z2⟩
              first | exact absurd (f204.symm.trans z1) (by decide) | exact c210 (t34.mpr z2)
            rw [if_neg hncm] at hQ
            refine wq_l 254 d250_253 rfl rfl rfl rfl ?_
            refine wq_v 257 [] d250_254 rfl rfl m230 rfl rfl (Nat.le_of_ble_eq_true rfl) rfl (rp_ref hN hS1 (fun σ4 h4 k4 => ?_))
            refine wq_k 258 2 d250_257 (by decide) rfl ?_
            refine wq_ri d250_258 (rfl) ?_
            exact hQ _ _ (xe_Xd (rp_Se h4 rfl (by omega)) (rp_Wk (xe_Bl B).2.2.2.2 k4) pg_stopd)
          · -- pc 213
            have hcm : pg_is (pt_T t M n) 56 c = true ∧ i.1 = 34 := ⟨f204, t34.mp (Classical.not_not.mp c210)⟩
            rw [if_pos hcm] at hQ
            obtain ⟨a, e, g1, g2, g3, g4, g5, g6, g7⟩ := xe_Bm B hcm.2
            refine wq_l 214 d250_213 rfl rfl rfl rfl ?_
            refine wq_a 215 d250_214 rfl rfl ?_
            refine wq_gi (ci := 10) (j := 29) 218 d250_215 rfl rfl rfl rfl ?_
            first | rw [h29] | rw [show (pm_pi (pm_pi σ 10 27 (nI P.length)) 10 8 (σ.1 10 8 - 1)).1 10 29 = nI (O'.length + 1) from h29] | rw [f29] | rw [k29]
            refine wq_k 219 1 d250_218 (by decide) rfl ?_
            refine wq_a 220 d250_219 rfl rfl ?_
            rw [nI_pred]
            refine wq_pf (ci := 10) (j := 29) 223 d250_220 rfl rfl rfl ⟨rfl, rfl⟩ rfl ?_
            have f27 : (pm_pi σ 10 29 (nI O'.length)).1 10 27 = nI (P.length + 1) := h27
            have f29 : (pm_pi σ 10 29 (nI O'.length)).1 10 29 = nI O'.length := rfl
            have f60 : (pm_pi σ 10 29 (nI O'.length)).2.2 60 O'.length = nI e := g5
            have f59 : (pm_pi σ 10 29 (nI O'.length)).2.2 59 P.length = nI a := g4
            generalize pm_pi σ 10 29 (nI O'.length) = σ3 at *
            refine wq_l 224 d250_223 rfl rfl rfl rfl ?_
            refine wq_l 225 d250_224 rfl rfl rfl rfl ?_
            refine wq_gr (ci := 10) (j := 26) (q := 59) 228 d250_225 rfl rfl rfl rfl ?_
            refine wq_l 229 d250_228 rfl rfl rfl rfl ?_
            refine wq_gi (ci := 10) (j := 27) 232 d250_229 rfl rfl rfl rfl ?_
            first | rw [h27] | rw [f27] | rw [k27]
            refine wq_k 233 1 d250_232 (by decide) rfl ?_
            refine wq_a 234 d250_233 rfl rfl ?_
            rw [nI_pred]
            refine wq_al 235 d250_234 rfl rfl rfl (vp_in_iff.mpr (by simp only [i_lt, i_le, i_eq, ne_eq, Int32.reduceToInt, b2_0, b2_1, decide_eq_true_eq, decide_eq_false_iff_not, Bool.not_eq_true, Bool.not_eq_false, e2] at * <;> omega)) ?_
            rw [ck, f59]
            refine wq_l 236 d250_235 rfl rfl rfl rfl ?_
            refine wq_gr (ci := 10) (j := 28) (q := 60) 239 d250_236 rfl rfl rfl rfl ?_
            refine wq_l 240 d250_239 rfl rfl rfl rfl ?_
            refine wq_gi (ci := 10) (j := 29) 243 d250_240 rfl rfl rfl rfl ?_
            first | rw [h29] | rw [show (pm_pi (pm_pi σ 10 27 (nI P.length)) 10 8 (σ.1 10 8 - 1)).1 10 29 = nI (O'.length + 1) from h29] | rw [f29] | rw [k29]
            refine wq_al 244 d250_243 rfl rfl rfl (vp_in_iff.mpr (by simp only [i_lt, i_le, i_eq, ne_eq, Int32.reduceToInt, b2_0, b2_1, decide_eq_true_eq, decide_eq_false_iff_not, Bool.not_eq_true, Bool.not_eq_false, e3] at * <;> omega)) ?_
            rw [co, f60]
            refine wq_v 247 [_, _] d250_244 rfl rfl m227 rfl rfl (Nat.le_of_ble_eq_true rfl) rfl (rp_add g6 g1 g2 g3 (fun σ4 h4 F4 => ?_))
            refine wq_l 248 d250_247 rfl rfl rfl rfl ?_
            refine wq_v 251 [] d250_248 rfl rfl m203 rfl rfl (Nat.le_of_ble_eq_true rfl) rfl (rp_go hN (pg_isl hcm.1 (by decide)) h4 (fun σ5 h5 k5 => ?_))
            refine wq_k 252 0 d250_251 (by decide) rfl ?_
            refine wq_ri d250_252 (rfl) ?_
            refine hQ _ _ (xe_Xm (xe_Bk (g7 σ4 h4 F4) k5 h5) (by omega) (fun z => ?_))
            have q1 := xe_ls (T := pt_T t M n) (c := c) hl
            have q2 := xe_k0 (i := i) (P := P) (by omega)
            have q3 := xe_k0 (i := (i.1, i.2.1, i.2.2.1, i.2.2.2 ++ v)) (P := P) (by show i.1 ≠ 35; omega)
            have q4 := h5.2.2
            have q5 : (rp_ad h a e).1 = h.1 := rfl
            rw [if_pos rfl]
            omega
      · -- pc 112
        have f109 := b2n c109
        refine wq_l 113 d250_112 rfl rfl rfl rfl ?_
        refine wq_k 115 32 d250_113 (by decide) rfl ?_
        refine wq_b 198 118 d250_115 rfl (by decide) rfl (fun c115 => ?_) (fun c115 => ?_)
        · -- pc 198
          have hncl : ¬ ((pg_is (pt_T t M n) 53 c = true ∧ (i.1 = 99 ∨ i.1 = 34)) ∨ (pg_is (pt_T t M n) 55 c = true ∧ i.1 = 32)) := by
            rintro (⟨z1, z2 | z2⟩ | ⟨z1, z2⟩)
            · first | exact absurd (f89.symm.trans z1) (by decide) | exact c94 (t99.mpr z2)
            · first | exact absurd (f89.symm.trans z1) (by decide) | exact c100 (t34.mpr z2)
            · first | exact absurd (f109.symm.trans z1) (by decide) | exact c115 (t32.mpr z2)
          rw [if_neg hncl] at hQ
          refine wq_l 199 d250_198 rfl rfl rfl rfl ?_
          refine wq_k 201 44 d250_199 (by decide) rfl ?_
          refine wq_v 204 [_] d250_201 rfl rfl m238 rfl rfl (Nat.le_of_ble_eq_true rfl) rfl (rp_sg (k := 56) hN (by decide) (by decide) hS1 ?_)
          refine wq_b 253 207 d250_204 rfl (by decide) rfl (fun c204 => ?_) (fun c204 => ?_)
          · -- pc 253
            have f204 := b2z c204
            have hncm : ¬ (pg_is (pt_T t M n) 56 c = true ∧ i.1 = 34) := by
              rintro ⟨z1, z2⟩
              first | exact absurd (f204.symm.trans z1) (by decide) | exact c210 (t34.mpr z2)
            rw [if_neg hncm] at hQ
            refine wq_l 254 d250_253 rfl rfl rfl rfl ?_
            refine wq_v 257 [] d250_254 rfl rfl m230 rfl rfl (Nat.le_of_ble_eq_true rfl) rfl (rp_ref hN hS1 (fun σ4 h4 k4 => ?_))
            refine wq_k 258 2 d250_257 (by decide) rfl ?_
            refine wq_ri d250_258 (rfl) ?_
            exact hQ _ _ (xe_Xd (rp_Se h4 rfl (by omega)) (rp_Wk (xe_Bl B).2.2.2.2 k4) pg_stopd)
          · -- pc 207
            have f204 := b2n c204
            refine wq_l 208 d250_207 rfl rfl rfl rfl ?_
            refine wq_k 210 34 d250_208 (by decide) rfl ?_
            refine wq_b 253 213 d250_210 rfl (by decide) rfl (fun c210 => ?_) (fun c210 => ?_)
            · -- pc 253
              have hncm : ¬ (pg_is (pt_T t M n) 56 c = true ∧ i.1 = 34) := by
                rintro ⟨z1, z2⟩
                first | exact absurd (f204.symm.trans z1) (by decide) | exact c210 (t34.mpr z2)
              rw [if_neg hncm] at hQ
              refine wq_l 254 d250_253 rfl rfl rfl rfl ?_
              refine wq_v 257 [] d250_254 rfl rfl m230 rfl rfl (Nat.le_of_ble_eq_true rfl) rfl (rp_ref hN hS1 (fun σ4 h4 k4 => ?_))
              refine wq_k 258 2 d250_257 (by decide) rfl ?_
              refine wq_ri d250_258 (rfl) ?_
              exact hQ _ _ (xe_Xd (rp_Se h4 rfl (by omega)) (rp_Wk (xe_Bl B).2.2.2.2 k4) pg_stopd)
            · -- pc 213
              have hcm : pg_is (pt_T t M n) 56 c = true ∧ i.1 = 34 := ⟨f204, t34.mp (Classical.not_not.mp c210)⟩
              rw [if_pos hcm] at hQ
              obtain ⟨a, e, g1, g2, g3, g4, g5, g6, g7⟩ := xe_Bm B hcm.2
              refine wq_l 214 d250_213 rfl rfl rfl rfl ?_
              refine wq_a 215 d250_214 rfl rfl ?_
              refine wq_gi (ci := 10) (j := 29) 218 d250_215 rfl rfl rfl rfl ?_
              first | rw [h29] | rw [show (pm_pi (pm_pi σ 10 27 (nI P.length)) 10 8 (σ.1 10 8 - 1)).1 10 29 = nI (O'.length + 1) from h29] | rw [f29] | rw [k29]
              refine wq_k 219 1 d250_218 (by decide) rfl ?_
              refine wq_a 220 d250_219 rfl rfl ?_
              rw [nI_pred]
              refine wq_pf (ci := 10) (j := 29) 223 d250_220 rfl rfl rfl ⟨rfl, rfl⟩ rfl ?_
              have f27 : (pm_pi σ 10 29 (nI O'.length)).1 10 27 = nI (P.length + 1) := h27
              have f29 : (pm_pi σ 10 29 (nI O'.length)).1 10 29 = nI O'.length := rfl
              have f60 : (pm_pi σ 10 29 (nI O'.length)).2.2 60 O'.length = nI e := g5
              have f59 : (pm_pi σ 10 29 (nI O'.length)).2.2 59 P.length = nI a := g4
              generalize pm_pi σ 10 29 (nI O'.length) = σ3 at *
              refine wq_l 224 d250_223 rfl rfl rfl rfl ?_
              refine wq_l 225 d250_224 rfl rfl rfl rfl ?_
              refine wq_gr (ci := 10) (j := 26) (q := 59) 228 d250_225 rfl rfl rfl rfl ?_
              refine wq_l 229 d250_228 rfl rfl rfl rfl ?_
              refine wq_gi (ci := 10) (j := 27) 232 d250_229 rfl rfl rfl rfl ?_
              first | rw [h27] | rw [f27] | rw [k27]
              refine wq_k 233 1 d250_232 (by decide) rfl ?_
              refine wq_a 234 d250_233 rfl rfl ?_
              rw [nI_pred]
              refine wq_al 235 d250_234 rfl rfl rfl (vp_in_iff.mpr (by simp only [i_lt, i_le, i_eq, ne_eq, Int32.reduceToInt, b2_0, b2_1, decide_eq_true_eq, decide_eq_false_iff_not, Bool.not_eq_true, Bool.not_eq_false, e2] at * <;> omega)) ?_
              rw [ck, f59]
              refine wq_l 236 d250_235 rfl rfl rfl rfl ?_
              refine wq_gr (ci := 10) (j := 28) (q := 60) 239 d250_236 rfl rfl rfl rfl ?_
              refine wq_l 240 d250_239 rfl rfl rfl rfl ?_
              refine wq_gi (ci := 10) (j := 29) 243 d250_240 rfl rfl rfl rfl ?_
              first | rw [h29] | rw [show (pm_pi (pm_pi σ 10 27 (nI P.length)) 10 8 (σ.1 10 8 - 1)).1 10 29 = nI (O'.length + 1) from h29] | rw [f29] | rw [k29]
              refine wq_al 244 d250_243 rfl rfl rfl (vp_in_iff.mpr (by simp only [i_lt, i_le, i_eq, ne_eq, Int32.reduceToInt, b2_0, b2_1, decide_eq_true_eq, decide_eq_false_iff_not, Bool.not_eq_true, Bool.not_eq_false, e3] at * <;> omega)) ?_
              rw [co, f60]
              refine wq_v 247 [_, _] d250_244 rfl rfl m227 rfl rfl (Nat.le_of_ble_eq_true rfl) rfl (rp_add g6 g1 g2 g3 (fun σ4 h4 F4 => ?_))
              refine wq_l 248 d250_247 rfl rfl rfl rfl ?_
              refine wq_v 251 [] d250_248 rfl rfl m203 rfl rfl (Nat.le_of_ble_eq_true rfl) rfl (rp_go hN (pg_isl hcm.1 (by decide)) h4 (fun σ5 h5 k5 => ?_))
              refine wq_k 252 0 d250_251 (by decide) rfl ?_
              refine wq_ri d250_252 (rfl) ?_
              refine hQ _ _ (xe_Xm (xe_Bk (g7 σ4 h4 F4) k5 h5) (by omega) (fun z => ?_))
              have q1 := xe_ls (T := pt_T t M n) (c := c) hl
              have q2 := xe_k0 (i := i) (P := P) (by omega)
              have q3 := xe_k0 (i := (i.1, i.2.1, i.2.2.1, i.2.2.2 ++ v)) (P := P) (by show i.1 ≠ 35; omega)
              have q4 := h5.2.2
              have q5 : (rp_ad h a e).1 = h.1 := rfl
              rw [if_pos rfl]
              omega
        · -- pc 118
          have hcl : (pg_is (pt_T t M n) 53 c = true ∧ (i.1 = 99 ∨ i.1 = 34)) ∨ (pg_is (pt_T t M n) 55 c = true ∧ i.1 = 32) := by
            first | exact Or.inl ⟨f89, Or.inl (t99.mp c94)⟩ | exact Or.inl ⟨f89, Or.inr (t34.mp c100)⟩ | exact Or.inr ⟨f109, t32.mp (Classical.not_not.mp c115)⟩
          have hl44 : pg_live (pt_T t M n) c ∧ (pt_T t M n).1 c.1 ≠ 44 := by
            rcases hcl with z | z
            · exact pg_isl z.1 (by decide)
            · exact pg_isl z.1 (by decide)
          have hk0 := xe_k0 (i := i) (P := P) (by omega)
          rw [if_pos hcl] at hQ
          refine wq_l 119 d250_118 rfl rfl rfl rfl ?_
          refine wq_a 120 d250_119 rfl rfl ?_
          refine wq_gi (ci := 10) (j := 27) 123 d250_120 rfl rfl rfl rfl ?_
          first | rw [h27] | rw [f27] | rw [k27]
          refine wq_k 124 1 d250_123 (by decide) rfl ?_
          refine wq_a 125 d250_124 rfl rfl ?_
          rw [nI_pred]
          refine wq_pf (ci := 10) (j := 27) 128 d250_125 rfl rfl rfl ⟨rfl, rfl⟩ rfl ?_
          refine wq_l 129 d250_128 rfl rfl rfl rfl ?_
          refine wq_a 130 d250_129 rfl rfl ?_
          refine wq_gi (ci := 10) (j := 8) 133 d250_130 rfl rfl rfl rfl ?_
          refine wq_k 134 1 d250_133 (by decide) rfl ?_
          refine wq_a 135 d250_134 rfl rfl ?_
          rw [show (pm_pi σ 10 27 (nI P.length)).1 10 8 = σ.1 10 8 from rfl]
          refine wq_pf (ci := 10) (j := 8) 138 d250_135 rfl rfl rfl ⟨rfl, rfl⟩ rfl ?_
          refine wq_l 139 d250_138 rfl rfl rfl rfl ?_
          refine wq_a 140 d250_139 rfl rfl ?_
          refine wq_gi (ci := 10) (j := 29) 143 d250_140 rfl rfl rfl rfl ?_
          first | rw [h29] | rw [show (pm_pi (pm_pi σ 10 27 (nI P.length)) 10 8 (σ.1 10 8 - 1)).1 10 29 = nI (O'.length + 1) from h29] | rw [f29] | rw [k29]
          refine wq_k 144 1 d250_143 (by decide) rfl ?_
          refine wq_a 145 d250_144 rfl rfl ?_
          rw [nI_pred]
          refine wq_pf (ci := 10) (j := 29) 148 d250_145 rfl rfl rfl ⟨rfl, rfl⟩ rfl ?_
          have f27 : (pm_pi (pm_pi (pm_pi σ 10 27 (nI P.length)) 10 8 (σ.1 10 8 - 1)) 10 29 (nI O'.length)).1 10 27 = nI P.length := rfl
          have f29 : (pm_pi (pm_pi (pm_pi σ 10 27 (nI P.length)) 10 8 (σ.1 10 8 - 1)) 10 29 (nI O'.length)).1 10 29 = nI O'.length := rfl
          have f60 := show (pm_pi (pm_pi (pm_pi σ 10 27 (nI P.length)) 10 8 (σ.1 10 8 - 1)) 10 29 (nI O'.length)).2.2 60 O'.length = σ.2.2 60 O'.length from rfl
          have f59 := show (pm_pi (pm_pi (pm_pi σ 10 27 (nI P.length)) 10 8 (σ.1 10 8 - 1)) 10 29 (nI O'.length)).2.2 59 P.length = σ.2.2 59 P.length from rfl
          have c9 := fun hi => xe_Bc9 B hi (fun _ => by omega)
          have c3 := fun hi => xe_Bc3 B hi (fun _ => by omega)
          generalize pm_pi (pm_pi (pm_pi σ 10 27 (nI P.length)) 10 8 (σ.1 10 8 - 1)) 10 29 (nI O'.length) = σ3 at *
          refine wq_l 149 d250_148 rfl rfl rfl rfl ?_
          refine wq_gr (ci := 10) (j := 28) (q := 60) 152 d250_149 rfl rfl rfl rfl ?_
          refine wq_l 153 d250_152 rfl rfl rfl rfl ?_
          refine wq_gi (ci := 10) (j := 29) 156 d250_153 rfl rfl rfl rfl ?_
          first | rw [h29] | rw [show (pm_pi (pm_pi σ 10 27 (nI P.length)) 10 8 (σ.1 10 8 - 1)).1 10 29 = nI (O'.length + 1) from h29] | rw [f29] | rw [k29]
          refine wq_al 157 d250_156 rfl rfl rfl (vp_in_iff.mpr (by simp only [i_lt, i_le, i_eq, ne_eq, Int32.reduceToInt, b2_0, b2_1, decide_eq_true_eq, decide_eq_false_iff_not, Bool.not_eq_true, Bool.not_eq_false, e3] at * <;> omega)) ?_
          rw [co, f60]
          refine wq_s 158 d250_157 rfl rfl (Nat.le_of_ble_eq_true rfl) rfl rfl ?_
          refine wq_l 159 d250_158 rfl rfl rfl rfl ?_
          refine wq_k 160 (-1) d250_159 (by decide) rfl ?_
          refine wq_b 187 163 d250_160 rfl (by decide) rfl (fun c160 => ?_) (fun c160 => ?_)
          · -- pc 187
            have i99 := t99.mp c160
            obtain ⟨x, la, g1, g2, B3⟩ := c9 i99
            rw [if_pos i99] at hQ
            rw [g2]
            refine wq_l 188 d250_187 rfl rfl rfl rfl ?_
            refine wq_v 191 [] d250_188 rfl rfl m203 rfl rfl (Nat.le_of_ble_eq_true rfl) rfl (rp_go hN (show pg_live (pt_T t M n) (pg_dec c) ∧ (pt_T t M n).1 (pg_dec c).1 ≠ 44 from hl44) (xe_Bl B3).2.2.2.1 (fun σ5 h5 k5 => ?_))
            have q1 := xe_ls (T := pt_T t M n) (c := pg_dec c) hl
            have q2 : (pg_dec c).2.2 = c.2.2 - 1 ∧ (pg_dec c).1 = c.1 := ⟨rfl, rfl⟩
            have B5 := xe_Bk B3 k5 h5
            refine wq_l 192 d250_191 rfl rfl rfl rfl ?_
            refine wq_l 193 d250_192 rfl rfl rfl rfl ?_
            refine wq_v 196 [_] d250_193 rfl rfl m249 rfl rfl (Nat.le_of_ble_eq_true rfl) rfl (xe249 (by omega) (by omega) B5 g1 rfl (fun _ => by omega) (fun σ6 h6 B6 => ?_))
            refine wq_k 197 1 d250_196 (by decide) rfl ?_
            refine wq_ri d250_197 (rfl) ?_
            refine hQ _ _ (xe_Xg B6 (by omega) (fun z => ?_))
            have q5 := (xe_Bl B6).2.2.2.1.2.2
            rw [(xe_gvc P _ _).1] at q5
            omega
          · -- pc 163
            have i99 : ¬ i.1 = 99 := fun z => c160 (t99.mpr z)
            obtain ⟨a, e, g1, g2, g3, g4, g5, g6, g7⟩ := c3 i99
            rw [if_neg i99] at hQ
            rw [g4] at f59
            rw [g5]
            refine wq_l 164 d250_163 rfl rfl rfl rfl ?_
            refine wq_l 165 d250_164 rfl rfl rfl rfl ?_
            refine wq_gr (ci := 10) (j := 26) (q := 59) 168 d250_165 rfl rfl rfl rfl ?_
            refine wq_l 169 d250_168 rfl rfl rfl rfl ?_
            refine wq_gi (ci := 10) (j := 27) 172 d250_169 rfl rfl rfl rfl ?_
            first | rw [h27] | rw [f27] | rw [k27]
            refine wq_al 173 d250_172 rfl rfl rfl (vp_in_iff.mpr (by simp only [i_lt, i_le, i_eq, ne_eq, Int32.reduceToInt, b2_0, b2_1, decide_eq_true_eq, decide_eq_false_iff_not, Bool.not_eq_true, Bool.not_eq_false, e2] at * <;> omega)) ?_
            rw [ck, f59]
            refine wq_l 174 d250_173 rfl rfl rfl rfl ?_
            refine wq_v 177 [_, _] d250_174 rfl rfl m227 rfl rfl (Nat.le_of_ble_eq_true rfl) rfl (rp_add g6 g1 g2 g3 (fun σ4 h4 F4 => ?_))
            obtain ⟨x, la, j1, j2, B3⟩ := g7 σ4 h4 F4
            have k27 : σ4.1 10 27 = nI P.length := by rw [F4.1]; exact f27
            have k59 : σ4.2.2 59 P.length = nI a := by rw [(F4.2.2 59).resolve_left (by omega)]; exact f59
            refine wq_l 178 d250_177 rfl rfl rfl rfl ?_
            refine wq_gr (ci := 10) (j := 26) (q := 59) 181 d250_178 rfl rfl rfl rfl ?_
            refine wq_l 182 d250_181 rfl rfl rfl rfl ?_
            refine wq_gi (ci := 10) (j := 27) 185 d250_182 rfl rfl rfl rfl ?_
            first | rw [h27] | rw [f27] | rw [k27]
            refine wq_al 186 d250_185 rfl rfl rfl (vp_in_iff.mpr (by simp only [i_lt, i_le, i_eq, ne_eq, Int32.reduceToInt, b2_0, b2_1, decide_eq_true_eq, decide_eq_false_iff_not, Bool.not_eq_true, Bool.not_eq_false, e2] at * <;> omega)) ?_
            rw [ck, k59]
            refine wq_s 187 d250_186 rfl rfl (Nat.le_of_ble_eq_true rfl) rfl rfl ?_
            skip
            refine wq_l 188 d250_187 rfl rfl rfl rfl ?_
            refine wq_v 191 [] d250_188 rfl rfl m203 rfl rfl (Nat.le_of_ble_eq_true rfl) rfl (rp_go hN (show pg_live (pt_T t M n) (pg_dec c) ∧ (pt_T t M n).1 (pg_dec c).1 ≠ 44 from hl44) (xe_Bl B3).2.2.2.1 (fun σ5 h5 k5 => ?_))
            have q1 := xe_ls (T := pt_T t M n) (c := pg_dec c) hl
            have q2 : (pg_dec c).2.2 = c.2.2 - 1 ∧ (pg_dec c).1 = c.1 := ⟨rfl, rfl⟩
            have B5 := xe_Bk B3 k5 h5
            refine wq_l 192 d250_191 rfl rfl rfl rfl ?_
            refine wq_l 193 d250_192 rfl rfl rfl rfl ?_
            refine wq_v 196 [_] d250_193 rfl rfl m249 rfl rfl (Nat.le_of_ble_eq_true rfl) rfl (xe249 (by omega) (by omega) B5 j1 j2 (fun _ => by omega) (fun σ6 h6 B6 => ?_))
            refine wq_k 197 1 d250_196 (by decide) rfl ?_
            refine wq_ri d250_197 (rfl) ?_
            refine hQ _ _ (xe_Xg B6 (by omega) (fun z => ?_))
            have q5 := (xe_Bl B6).2.2.2.1.2.2
            rw [(xe_gvc P _ _).1] at q5
            omega
    · -- pc 92
      have f89 := b2n c89
      refine wq_l 93 d250_92 rfl rfl rfl rfl ?_
      refine wq_k 94 (-1) d250_93 (by decide) rfl ?_
      refine wq_b 118 97 d250_94 rfl (by decide) rfl (fun c94 => ?_) (fun c94 => ?_)
      · -- pc 118
        have hcl : (pg_is (pt_T t M n) 53 c = true ∧ (i.1 = 99 ∨ i.1 = 34)) ∨ (pg_is (pt_T t M n) 55 c = true ∧ i.1 = 32) := by
          first | exact Or.inl ⟨f89, Or.inl (t99.mp c94)⟩ | exact Or.inl ⟨f89, Or.inr (t34.mp c100)⟩ | exact Or.inr ⟨f109, t32.mp (Classical.not_not.mp c115)⟩
        have hl44 : pg_live (pt_T t M n) c ∧ (pt_T t M n).1 c.1 ≠ 44 := by
          rcases hcl with z | z
          · exact pg_isl z.1 (by decide)
          · exact pg_isl z.1 (by decide)
        have hk0 := xe_k0 (i := i) (P := P) (by omega)
        rw [if_pos hcl] at hQ
        refine wq_l 119 d250_118 rfl rfl rfl rfl ?_
        refine wq_a 120 d250_119 rfl rfl ?_
        refine wq_gi (ci := 10) (j := 27) 123 d250_120 rfl rfl rfl rfl ?_
        first | rw [h27] | rw [f27] | rw [k27]
        refine wq_k 124 1 d250_123 (by decide) rfl ?_
        refine wq_a 125 d250_124 rfl rfl ?_
        rw [nI_pred]
        refine wq_pf (ci := 10) (j := 27) 128 d250_125 rfl rfl rfl ⟨rfl, rfl⟩ rfl ?_
        refine wq_l 129 d250_128 rfl rfl rfl rfl ?_
        refine wq_a 130 d250_129 rfl rfl ?_
        refine wq_gi (ci := 10) (j := 8) 133 d250_130 rfl rfl rfl rfl ?_
        refine wq_k 134 1 d250_133 (by decide) rfl ?_
        refine wq_a 135 d250_134 rfl rfl ?_
        rw [show (pm_pi σ 10 27 (nI P.length)).1 10 8 = σ.1 10 8 from rfl]
        refine wq_pf (ci := 10) (j := 8) 138 d250_135 rfl rfl rfl ⟨rfl, rfl⟩ rfl ?_
        refine wq_l 139 d250_138 rfl rfl rfl rfl ?_
        refine wq_a 140 d250_139 rfl rfl ?_
        refine wq_gi (ci := 10) (j := 29) 143 d250_140 rfl rfl rfl rfl ?_
        first | rw [h29] | rw [show (pm_pi (pm_pi σ 10 27 (nI P.length)) 10 8 (σ.1 10 8 - 1)).1 10 29 = nI (O'.length + 1) from h29] | rw [f29] | rw [k29]
        refine wq_k 144 1 d250_143 (by decide) rfl ?_
        refine wq_a 145 d250_144 rfl rfl ?_
        rw [nI_pred]
        refine wq_pf (ci := 10) (j := 29) 148 d250_145 rfl rfl rfl ⟨rfl, rfl⟩ rfl ?_
        have f27 : (pm_pi (pm_pi (pm_pi σ 10 27 (nI P.length)) 10 8 (σ.1 10 8 - 1)) 10 29 (nI O'.length)).1 10 27 = nI P.length := rfl
        have f29 : (pm_pi (pm_pi (pm_pi σ 10 27 (nI P.length)) 10 8 (σ.1 10 8 - 1)) 10 29 (nI O'.length)).1 10 29 = nI O'.length := rfl
        have f60 := show (pm_pi (pm_pi (pm_pi σ 10 27 (nI P.length)) 10 8 (σ.1 10 8 - 1)) 10 29 (nI O'.length)).2.2 60 O'.length = σ.2.2 60 O'.length from rfl
        have f59 := show (pm_pi (pm_pi (pm_pi σ 10 27 (nI P.length)) 10 8 (σ.1 10 8 - 1)) 10 29 (nI O'.length)).2.2 59 P.length = σ.2.2 59 P.length from rfl
        have c9 := fun hi => xe_Bc9 B hi (fun _ => by omega)
        have c3 := fun hi => xe_Bc3 B hi (fun _ => by omega)
        generalize pm_pi (pm_pi (pm_pi σ 10 27 (nI P.length)) 10 8 (σ.1 10 8 - 1)) 10 29 (nI O'.length) = σ3 at *
        refine wq_l 149 d250_148 rfl rfl rfl rfl ?_
        refine wq_gr (ci := 10) (j := 28) (q := 60) 152 d250_149 rfl rfl rfl rfl ?_
        refine wq_l 153 d250_152 rfl rfl rfl rfl ?_
        refine wq_gi (ci := 10) (j := 29) 156 d250_153 rfl rfl rfl rfl ?_
        first | rw [h29] | rw [show (pm_pi (pm_pi σ 10 27 (nI P.length)) 10 8 (σ.1 10 8 - 1)).1 10 29 = nI (O'.length + 1) from h29] | rw [f29] | rw [k29]
        refine wq_al 157 d250_156 rfl rfl rfl (vp_in_iff.mpr (by simp only [i_lt, i_le, i_eq, ne_eq, Int32.reduceToInt, b2_0, b2_1, decide_eq_true_eq, decide_eq_false_iff_not, Bool.not_eq_true, Bool.not_eq_false, e3] at * <;> omega)) ?_
        rw [co, f60]
        refine wq_s 158 d250_157 rfl rfl (Nat.le_of_ble_eq_true rfl) rfl rfl ?_
        refine wq_l 159 d250_158 rfl rfl rfl rfl ?_
        refine wq_k 160 (-1) d250_159 (by decide) rfl ?_
        refine wq_b 187 163 d250_160 rfl (by decide) rfl (fun c160 => ?_) (fun c160 => ?_)
        · -- pc 187
          have i99 := t99.mp c160
          obtain ⟨x, la, g1, g2, B3⟩ := c9 i99
          rw [if_pos i99] at hQ
          rw [g2]
          refine wq_l 188 d250_187 rfl rfl rfl rfl ?_
          refine wq_v 191 [] d250_188 rfl rfl m203 rfl rfl (Nat.le_of_ble_eq_true rfl) rfl (rp_go hN (show pg_live (pt_T t M n) (pg_dec c) ∧ (pt_T t M n).1 (pg_dec c).1 ≠ 44 from hl44) (xe_Bl B3).2.2.2.1 (fun σ5 h5 k5 => ?_))
          have q1 := xe_ls (T := pt_T t M n) (c := pg_dec c) hl
          have q2 : (pg_dec c).2.2 = c.2.2 - 1 ∧ (pg_dec c).1 = c.1 := ⟨rfl, rfl⟩
          have B5 := xe_Bk B3 k5 h5
          refine wq_l 192 d250_191 rfl rfl rfl rfl ?_
          refine wq_l 193 d250_192 rfl rfl rfl rfl ?_
          refine wq_v 196 [_] d250_193 rfl rfl m249 rfl rfl (Nat.le_of_ble_eq_true rfl) rfl (xe249 (by omega) (by omega) B5 g1 rfl (fun _ => by omega) (fun σ6 h6 B6 => ?_))
          refine wq_k 197 1 d250_196 (by decide) rfl ?_
          refine wq_ri d250_197 (rfl) ?_
          refine hQ _ _ (xe_Xg B6 (by omega) (fun z => ?_))
          have q5 := (xe_Bl B6).2.2.2.1.2.2
          rw [(xe_gvc P _ _).1] at q5
          omega
        · -- pc 163
          have i99 : ¬ i.1 = 99 := fun z => c160 (t99.mpr z)
          obtain ⟨a, e, g1, g2, g3, g4, g5, g6, g7⟩ := c3 i99
          rw [if_neg i99] at hQ
          rw [g4] at f59
          rw [g5]
          refine wq_l 164 d250_163 rfl rfl rfl rfl ?_
          refine wq_l 165 d250_164 rfl rfl rfl rfl ?_
          refine wq_gr (ci := 10) (j := 26) (q := 59) 168 d250_165 rfl rfl rfl rfl ?_
          refine wq_l 169 d250_168 rfl rfl rfl rfl ?_
          refine wq_gi (ci := 10) (j := 27) 172 d250_169 rfl rfl rfl rfl ?_
          first | rw [h27] | rw [f27] | rw [k27]
          refine wq_al 173 d250_172 rfl rfl rfl (vp_in_iff.mpr (by simp only [i_lt, i_le, i_eq, ne_eq, Int32.reduceToInt, b2_0, b2_1, decide_eq_true_eq, decide_eq_false_iff_not, Bool.not_eq_true, Bool.not_eq_false, e2] at * <;> omega)) ?_
          rw [ck, f59]
          refine wq_l 174 d250_173 rfl rfl rfl rfl ?_
          refine wq_v 177 [_, _] d250_174 rfl rfl m227 rfl rfl (Nat.le_of_ble_eq_true rfl) rfl (rp_add g6 g1 g2 g3 (fun σ4 h4 F4 => ?_))
          obtain ⟨x, la, j1, j2, B3⟩ := g7 σ4 h4 F4
          have k27 : σ4.1 10 27 = nI P.length := by rw [F4.1]; exact f27
          have k59 : σ4.2.2 59 P.length = nI a := by rw [(F4.2.2 59).resolve_left (by omega)]; exact f59
          refine wq_l 178 d250_177 rfl rfl rfl rfl ?_
          refine wq_gr (ci := 10) (j := 26) (q := 59) 181 d250_178 rfl rfl rfl rfl ?_
          refine wq_l 182 d250_181 rfl rfl rfl rfl ?_
          refine wq_gi (ci := 10) (j := 27) 185 d250_182 rfl rfl rfl rfl ?_
          first | rw [h27] | rw [f27] | rw [k27]
          refine wq_al 186 d250_185 rfl rfl rfl (vp_in_iff.mpr (by simp only [i_lt, i_le, i_eq, ne_eq, Int32.reduceToInt, b2_0, b2_1, decide_eq_true_eq, decide_eq_false_iff_not, Bool.not_eq_true, Bool.not_eq_false, e2] at * <;> omega)) ?_
          rw [ck, k59]
          refine wq_s 187 d250_186 rfl rfl (Nat.le_of_ble_eq_true rfl) rfl rfl ?_
          skip
          refine wq_l 188 d250_187 rfl rfl rfl rfl ?_
          refine wq_v 191 [] d250_188 rfl rfl m203 rfl rfl (Nat.le_of_ble_eq_true rfl) rfl (rp_go hN (show pg_live (pt_T t M n) (pg_dec c) ∧ (pt_T t M n).1 (pg_dec c).1 ≠ 44 from hl44) (xe_Bl B3).2.2.2.1 (fun σ5 h5 k5 => ?_))
          have q1 := xe_ls (T := pt_T t M n) (c := pg_dec c) hl
          have q2 : (pg_dec c).2.2 = c.2.2 - 1 ∧ (pg_dec c).1 = c.1 := ⟨rfl, rfl⟩
          have B5 := xe_Bk B3 k5 h5
          refine wq_l 192 d250_191 rfl rfl rfl rfl ?_
          refine wq_l 193 d250_192 rfl rfl rfl rfl ?_
          refine wq_v 196 [_] d250_193 rfl rfl m249 rfl rfl (Nat.le_of_ble_eq_true rfl) rfl (xe249 (by omega) (by omega) B5 j1 j2 (fun _ => by omega) (fun σ6 h6 B6 => ?_))
          refine wq_k 197 1 d250_196 (by decide) rfl ?_
          refine wq_ri d250_197 (rfl) ?_
          refine hQ _ _ (xe_Xg B6 (by omega) (fun z => ?_))
          have q5 := (xe_Bl B6).2.2.2.1.2.2
          rw [(xe_gvc P _ _).1] at q5
          omega
      · -- pc 97
        refine wq_l 98 d250_97 rfl rfl rfl rfl ?_
        refine wq_k 100 34 d250_98 (by decide) rfl ?_
        refine wq_b 118 103 d250_100 rfl (by decide) rfl (fun c100 => ?_) (fun c100 => ?_)
        · -- pc 118
          have hcl : (pg_is (pt_T t M n) 53 c = true ∧ (i.1 = 99 ∨ i.1 = 34)) ∨ (pg_is (pt_T t M n) 55 c = true ∧ i.1 = 32) := by
            first | exact Or.inl ⟨f89, Or.inl (t99.mp c94)⟩ | exact Or.inl ⟨f89, Or.inr (t34.mp c100)⟩ | exact Or.inr ⟨f109, t32.mp (Classical.not_not.mp c115)⟩
          have hl44 : pg_live (pt_T t M n) c ∧ (pt_T t M n).1 c.1 ≠ 44 := by
            rcases hcl with z | z
            · exact pg_isl z.1 (by decide)
            · exact pg_isl z.1 (by decide)
          have hk0 := xe_k0 (i := i) (P := P) (by omega)
          rw [if_pos hcl] at hQ
          refine wq_l 119 d250_118 rfl rfl rfl rfl ?_
          refine wq_a 120 d250_119 rfl rfl ?_
          refine wq_gi (ci := 10) (j := 27) 123 d250_120 rfl rfl rfl rfl ?_
          first | rw [h27] | rw [f27] | rw [k27]
          refine wq_k 124 1 d250_123 (by decide) rfl ?_
          refine wq_a 125 d250_124 rfl rfl ?_
          rw [nI_pred]
          refine wq_pf (ci := 10) (j := 27) 128 d250_125 rfl rfl rfl ⟨rfl, rfl⟩ rfl ?_
          refine wq_l 129 d250_128 rfl rfl rfl rfl ?_
          refine wq_a 130 d250_129 rfl rfl ?_
          refine wq_gi (ci := 10) (j := 8) 133 d250_130 rfl rfl rfl rfl ?_
          refine wq_k 134 1 d250_133 (by decide) rfl ?_
          refine wq_a 135 d250_134 rfl rfl ?_
          rw [show (pm_pi σ 10 27 (nI P.length)).1 10 8 = σ.1 10 8 from rfl]
          refine wq_pf (ci := 10) (j := 8) 138 d250_135 rfl rfl rfl ⟨rfl, rfl⟩ rfl ?_
          refine wq_l 139 d250_138 rfl rfl rfl rfl ?_
          refine wq_a 140 d250_139 rfl rfl ?_
          refine wq_gi (ci := 10) (j := 29) 143 d250_140 rfl rfl rfl rfl ?_
          first | rw [h29] | rw [show (pm_pi (pm_pi σ 10 27 (nI P.length)) 10 8 (σ.1 10 8 - 1)).1 10 29 = nI (O'.length + 1) from h29] | rw [f29] | rw [k29]
          refine wq_k 144 1 d250_143 (by decide) rfl ?_
          refine wq_a 145 d250_144 rfl rfl ?_
          rw [nI_pred]
          refine wq_pf (ci := 10) (j := 29) 148 d250_145 rfl rfl rfl ⟨rfl, rfl⟩ rfl ?_
          have f27 : (pm_pi (pm_pi (pm_pi σ 10 27 (nI P.length)) 10 8 (σ.1 10 8 - 1)) 10 29 (nI O'.length)).1 10 27 = nI P.length := rfl
          have f29 : (pm_pi (pm_pi (pm_pi σ 10 27 (nI P.length)) 10 8 (σ.1 10 8 - 1)) 10 29 (nI O'.length)).1 10 29 = nI O'.length := rfl
          have f60 := show (pm_pi (pm_pi (pm_pi σ 10 27 (nI P.length)) 10 8 (σ.1 10 8 - 1)) 10 29 (nI O'.length)).2.2 60 O'.length = σ.2.2 60 O'.length from rfl
          have f59 := show (pm_pi (pm_pi (pm_pi σ 10 27 (nI P.length)) 10 8 (σ.1 10 8 - 1)) 10 29 (nI O'.length)).2.2 59 P.length = σ.2.2 59 P.length from rfl
          have c9 := fun hi => xe_Bc9 B hi (fun _ => by omega)
          have c3 := fun hi => xe_Bc3 B hi (fun _ => by omega)
          generalize pm_pi (pm_pi (pm_pi σ 10 27 (nI P.length)) 10 8 (σ.1 10 8 - 1)) 10 29 (nI O'.length) = σ3 at *
          refine wq_l 149 d250_148 rfl rfl rfl rfl ?_
          refine wq_gr (ci := 10) (j := 28) (q := 60) 152 d250_149 rfl rfl rfl rfl ?_
          refine wq_l 153 d250_152 rfl rfl rfl rfl ?_
          refine wq_gi (ci := 10) (j := 29) 156 d250_153 rfl rfl rfl rfl ?_
          first | rw [h29] | rw [show (pm_pi (pm_pi σ 10 27 (nI P.length)) 10 8 (σ.1 10 8 - 1)).1 10 29 = nI (O'.length + 1) from h29] | rw [f29] | rw [k29]
          refine wq_al 157 d250_156 rfl rfl rfl (vp_in_iff.mpr (by simp only [i_lt, i_le, i_eq, ne_eq, Int32.reduceToInt, b2_0, b2_1, decide_eq_true_eq, decide_eq_false_iff_not, Bool.not_eq_true, Bool.not_eq_false, e3] at * <;> omega)) ?_
          rw [co, f60]
          refine wq_s 158 d250_157 rfl rfl (Nat.le_of_ble_eq_true rfl) rfl rfl ?_
          refine wq_l 159 d250_158 rfl rfl rfl rfl ?_
          refine wq_k 160 (-1) d250_159 (by decide) rfl ?_
          refine wq_b 187 163 d250_160 rfl (by decide) rfl (fun c160 => ?_) (fun c160 => ?_)
          · -- pc 187
            have i99 := t99.mp c160
            obtain ⟨x, la, g1, g2, B3⟩ := c9 i99
            rw [if_pos i99] at hQ
            rw [g2]
            refine wq_l 188 d250_187 rfl rfl rfl rfl ?_
            refine wq_v 191 [] d250_188 rfl rfl m203 rfl rfl (Nat.le_of_ble_eq_true rfl) rfl (rp_go hN (show pg_live (pt_T t M n) (pg_dec c) ∧ (pt_T t M n).1 (pg_dec c).1 ≠ 44 from hl44) (xe_Bl B3).2.2.2.1 (fun σ5 h5 k5 => ?_))
            have q1 := xe_ls (T := pt_T t M n) (c := pg_dec c) hl
            have q2 : (pg_dec c).2.2 = c.2.2 - 1 ∧ (pg_dec c).1 = c.1 := ⟨rfl, rfl⟩
            have B5 := xe_Bk B3 k5 h5
            refine wq_l 192 d250_191 rfl rfl rfl rfl ?_
            refine wq_l 193 d250_192 rfl rfl rfl rfl ?_
            refine wq_v 196 [_] d250_193 rfl rfl m249 rfl rfl (Nat.le_of_ble_eq_true rfl) rfl (xe249 (by omega) (by omega) B5 g1 rfl (fun _ => by omega) (fun σ6 h6 B6 => ?_))
            refine wq_k 197 1 d250_196 (by decide) rfl ?_
            refine wq_ri d250_197 (rfl) ?_
            refine hQ _ _ (xe_Xg B6 (by omega) (fun z => ?_))
            have q5 := (xe_Bl B6).2.2.2.1.2.2
            rw [(xe_gvc P _ _).1] at q5
            omega
          · -- pc 163
            have i99 : ¬ i.1 = 99 := fun z => c160 (t99.mpr z)
            obtain ⟨a, e, g1, g2, g3, g4, g5, g6, g7⟩ := c3 i99
            rw [if_neg i99] at hQ
            rw [g4] at f59
            rw [g5]
            refine wq_l 164 d250_163 rfl rfl rfl rfl ?_
            refine wq_l 165 d250_164 rfl rfl rfl rfl ?_
            refine wq_gr (ci := 10) (j := 26) (q := 59) 168 d250_165 rfl rfl rfl rfl ?_
            refine wq_l 169 d250_168 rfl rfl rfl rfl ?_
            refine wq_gi (ci := 10) (j := 27) 172 d250_169 rfl rfl rfl rfl ?_
            first | rw [h27] | rw [f27] | rw [k27]
            refine wq_al 173 d250_172 rfl rfl rfl (vp_in_iff.mpr (by simp only [i_lt, i_le, i_eq, ne_eq, Int32.reduceToInt, b2_0, b2_1, decide_eq_true_eq, decide_eq_false_iff_not, Bool.not_eq_true, Bool.not_eq_false, e2] at * <;> omega)) ?_
            rw [ck, f59]
            refine wq_l 174 d250_173 rfl rfl rfl rfl ?_
            refine wq_v 177 [_, _] d250_174 rfl rfl m227 rfl rfl (Nat.le_of_ble_eq_true rfl) rfl (rp_add g6 g1 g2 g3 (fun σ4 h4 F4 => ?_))
            obtain ⟨x, la, j1, j2, B3⟩ := g7 σ4 h4 F4
            have k27 : σ4.1 10 27 = nI P.length := by rw [F4.1]; exact f27
            have k59 : σ4.2.2 59 P.length = nI a := by rw [(F4.2.2 59).resolve_left (by omega)]; exact f59
            refine wq_l 178 d250_177 rfl rfl rfl rfl ?_
            refine wq_gr (ci := 10) (j := 26) (q := 59) 181 d250_178 rfl rfl rfl rfl ?_
            refine wq_l 182 d250_181 rfl rfl rfl rfl ?_
            refine wq_gi (ci := 10) (j := 27) 185 d250_182 rfl rfl rfl rfl ?_
            first | rw [h27] | rw [f27] | rw [k27]
            refine wq_al 186 d250_185 rfl rfl rfl (vp_in_iff.mpr (by simp only [i_lt, i_le, i_eq, ne_eq, Int32.reduceToInt, b2_0, b2_1, decide_eq_true_eq, decide_eq_false_iff_not, Bool.not_eq_true, Bool.not_eq_false, e2] at * <;> omega)) ?_
            rw [ck, k59]
            refine wq_s 187 d250_186 rfl rfl (Nat.le_of_ble_eq_true rfl) rfl rfl ?_
            skip
            refine wq_l 188 d250_187 rfl rfl rfl rfl ?_
            refine wq_v 191 [] d250_188 rfl rfl m203 rfl rfl (Nat.le_of_ble_eq_true rfl) rfl (rp_go hN (show pg_live (pt_T t M n) (pg_dec c) ∧ (pt_T t M n).1 (pg_dec c).1 ≠ 44 from hl44) (xe_Bl B3).2.2.2.1 (fun σ5 h5 k5 => ?_))
            have q1 := xe_ls (T := pt_T t M n) (c := pg_dec c) hl
            have q2 : (pg_dec c).2.2 = c.2.2 - 1 ∧ (pg_dec c).1 = c.1 := ⟨rfl, rfl⟩
            have B5 := xe_Bk B3 k5 h5
            refine wq_l 192 d250_191 rfl rfl rfl rfl ?_
            refine wq_l 193 d250_192 rfl rfl rfl rfl ?_
            refine wq_v 196 [_] d250_193 rfl rfl m249 rfl rfl (Nat.le_of_ble_eq_true rfl) rfl (xe249 (by omega) (by omega) B5 j1 j2 (fun _ => by omega) (fun σ6 h6 B6 => ?_))
            refine wq_k 197 1 d250_196 (by decide) rfl ?_
            refine wq_ri d250_197 (rfl) ?_
            refine hQ _ _ (xe_Xg B6 (by omega) (fun z => ?_))
            have q5 := (xe_Bl B6).2.2.2.1.2.2
            rw [(xe_gvc P _ _).1] at q5
            omega
        · -- pc 103
          refine wq_l 104 d250_103 rfl rfl rfl rfl ?_
          refine wq_k 106 93 d250_104 (by decide) rfl ?_
          refine wq_v 109 [_] d250_106 rfl rfl m238 rfl rfl (Nat.le_of_ble_eq_true rfl) rfl (rp_sg (k := 55) hN (by decide) (by decide) hS1 ?_)
          refine wq_b 198 112 d250_109 rfl (by decide) rfl (fun c109 => ?_) (fun c109 => ?_)
          · -- pc 198
            have f109 := b2z c109
            have hncl : ¬ ((pg_is (pt_T t M n) 53 c = true ∧ (i.1 = 99 ∨ i.1 = 34)) ∨ (pg_is (pt_T t M n) 55 c = true ∧ i.1 = 32)) := by
              rintro (⟨z1, z2 | z2⟩ | ⟨z1, z2⟩)
              · first | exact absurd (f89.symm.trans z1) (by decide) | exact c94 (t99.mpr z2)
              · first | exact absurd (f89.symm.trans z1) (by decide) | exact c100 (t34.mpr z2)
              · first | exact absurd (f109.symm.trans z1) (by decide) | exact c115 (t32.mpr z2)
            rw [if_neg hncl] at hQ
            refine wq_l 199 d250_198 rfl rfl rfl rfl ?_
            refine wq_k 201 44 d250_199 (by decide) rfl ?_
            refine wq_v 204 [_] d250_201 rfl rfl m238 rfl rfl (Nat.le_of_ble_eq_true rfl) rfl (rp_sg (k := 56) hN (by decide) (by decide) hS1 ?_)
            refine wq_b 253 207 d250_204 rfl (by decide) rfl (fun c204 => ?_) (fun c204 => ?_)
            · -- pc 253
              have f204 := b2z c204
              have hncm : ¬ (pg_is (pt_T t M n) 56 c = true ∧ i.1 = 34) := by
                rintro ⟨z1, z2⟩
                first | exact absurd (f204.symm.trans z1) (by decide) | exact c210 (t34.mpr z2)
              rw [if_neg hncm] at hQ
              refine wq_l 254 d250_253 rfl rfl rfl rfl ?_
              refine wq_v 257 [] d250_254 rfl rfl m230 rfl rfl (Nat.le_of_ble_eq_true rfl) rfl (rp_ref hN hS1 (fun σ4 h4 k4 => ?_))
              refine wq_k 258 2 d250_257 (by decide) rfl ?_
              refine wq_ri d250_258 (rfl) ?_
              exact hQ _ _ (xe_Xd (rp_Se h4 rfl (by omega)) (rp_Wk (xe_Bl B).2.2.2.2 k4) pg_stopd)
            · -- pc 207
              have f204 := b2n c204
              refine wq_l 208 d250_207 rfl rfl rfl rfl ?_
              refine wq_k 210 34 d250_208 (by decide) rfl ?_
              refine wq_b 253 213 d250_210 rfl (by decide) rfl (fun c210 => ?_) (fun c210 => ?_)
              · -- pc 253
                have hncm : ¬ (pg_is (pt_T t M n) 56 c = true ∧ i.1 = 34) := by
                  rintro ⟨z1, z2⟩
                  first | exact absurd (f204.symm.trans z1) (by decide) | exact c210 (t34.mpr z2)
                rw [if_neg hncm] at hQ
                refine wq_l 254 d250_253 rfl rfl rfl rfl ?_
                refine wq_v 257 [] d250_254 rfl rfl m230 rfl rfl (Nat.le_of_ble_eq_true rfl) rfl (rp_ref hN hS1 (fun σ4 h4 k4 => ?_))
                refine wq_k 258 2 d250_257 (by decide) rfl ?_
                refine wq_ri d250_258 (rfl) ?_
                exact hQ _ _ (xe_Xd (rp_Se h4 rfl (by omega)) (rp_Wk (xe_Bl B).2.2.2.2 k4) pg_stopd)
              · -- pc 213
                have hcm : pg_is (pt_T t M n) 56 c = true ∧ i.1 = 34 := ⟨f204, t34.mp (Classical.not_not.mp c210)⟩
                rw [if_pos hcm] at hQ
                obtain ⟨a, e, g1, g2, g3, g4, g5, g6, g7⟩ := xe_Bm B hcm.2
                refine wq_l 214 d250_213 rfl rfl rfl rfl ?_
                refine wq_a 215 d250_214 rfl rfl ?_
                refine wq_gi (ci := 10) (j := 29) 218 d250_215 rfl rfl rfl rfl ?_
                first | rw [h29] | rw [show (pm_pi (pm_pi σ 10 27 (nI P.length)) 10 8 (σ.1 10 8 - 1)).1 10 29 = nI (O'.length + 1) from h29] | rw [f29] | rw [k29]
                refine wq_k 219 1 d250_218 (by decide) rfl ?_
                refine wq_a 220 d250_219 rfl rfl ?_
                rw [nI_pred]
                refine wq_pf (ci := 10) (j := 29) 223 d250_220 rfl rfl rfl ⟨rfl, rfl⟩ rfl ?_
                have f27 : (pm_pi σ 10 29 (nI O'.length)).1 10 27 = nI (P.length + 1) := h27
                have f29 : (pm_pi σ 10 29 (nI O'.length)).1 10 29 = nI O'.length := rfl
                have f60 : (pm_pi σ 10 29 (nI O'.length)).2.2 60 O'.length = nI e := g5
                have f59 : (pm_pi σ 10 29 (nI O'.length)).2.2 59 P.length = nI a := g4
                generalize pm_pi σ 10 29 (nI O'.length) = σ3 at *
                refine wq_l 224 d250_223 rfl rfl rfl rfl ?_
                refine wq_l 225 d250_224 rfl rfl rfl rfl ?_
                refine wq_gr (ci := 10) (j := 26) (q := 59) 228 d250_225 rfl rfl rfl rfl ?_
                refine wq_l 229 d250_228 rfl rfl rfl rfl ?_
                refine wq_gi (ci := 10) (j := 27) 232 d250_229 rfl rfl rfl rfl ?_
                first | rw [h27] | rw [f27] | rw [k27]
                refine wq_k 233 1 d250_232 (by decide) rfl ?_
                refine wq_a 234 d250_233 rfl rfl ?_
                rw [nI_pred]
                refine wq_al 235 d250_234 rfl rfl rfl (vp_in_iff.mpr (by simp only [i_lt, i_le, i_eq, ne_eq, Int32.reduceToInt, b2_0, b2_1, decide_eq_true_eq, decide_eq_false_iff_not, Bool.not_eq_true, Bool.not_eq_false, e2] at * <;> omega)) ?_
                rw [ck, f59]
                refine wq_l 236 d250_235 rfl rfl rfl rfl ?_
                refine wq_gr (ci := 10) (j := 28) (q := 60) 239 d250_236 rfl rfl rfl rfl ?_
                refine wq_l 240 d250_239 rfl rfl rfl rfl ?_
                refine wq_gi (ci := 10) (j := 29) 243 d250_240 rfl rfl rfl rfl ?_
                first | rw [h29] | rw [show (pm_pi (pm_pi σ 10 27 (nI P.length)) 10 8 (σ.1 10 8 - 1)).1 10 29 = nI (O'.length + 1) from h29] | rw [f29] | rw [k29]
                refine wq_al 244 d250_243 rfl rfl rfl (vp_in_iff.mpr (by simp only [i_lt, i_le, i_eq, ne_eq, Int32.reduceToInt, b2_0, b2_1, decide_eq_true_eq, decide_eq_false_iff_not, Bool.not_eq_true, Bool.not_eq_false, e3] at * <;> omega)) ?_
                rw [co, f60]
                refine wq_v 247 [_, _] d250_244 rfl rfl m227 rfl rfl (Nat.le_of_ble_eq_true rfl) rfl (rp_add g6 g1 g2 g3 (fun σ4 h4 F4 => ?_))
                refine wq_l 248 d250_247 rfl rfl rfl rfl ?_
                refine wq_v 251 [] d250_248 rfl rfl m203 rfl rfl (Nat.le_of_ble_eq_true rfl) rfl (rp_go hN (pg_isl hcm.1 (by decide)) h4 (fun σ5 h5 k5 => ?_))
                refine wq_k 252 0 d250_251 (by decide) rfl ?_
                refine wq_ri d250_252 (rfl) ?_
                refine hQ _ _ (xe_Xm (xe_Bk (g7 σ4 h4 F4) k5 h5) (by omega) (fun z => ?_))
                have q1 := xe_ls (T := pt_T t M n) (c := c) hl
                have q2 := xe_k0 (i := i) (P := P) (by omega)
                have q3 := xe_k0 (i := (i.1, i.2.1, i.2.2.1, i.2.2.2 ++ v)) (P := P) (by show i.1 ≠ 35; omega)
                have q4 := h5.2.2
                have q5 : (rp_ad h a e).1 = h.1 := rfl
                rw [if_pos rfl]
                omega
          · -- pc 112
            have f109 := b2n c109
            refine wq_l 113 d250_112 rfl rfl rfl rfl ?_
            refine wq_k 115 32 d250_113 (by decide) rfl ?_
            refine wq_b 198 118 d250_115 rfl (by decide) rfl (fun c115 => ?_) (fun c115 => ?_)
            · -- pc 198
              have hncl : ¬ ((pg_is (pt_T t M n) 53 c = true ∧ (i.1 = 99 ∨ i.1 = 34)) ∨ (pg_is (pt_T t M n) 55 c = true ∧ i.1 = 32)) := by
                rintro (⟨z1, z2 | z2⟩ | ⟨z1, z2⟩)
                · first | exact absurd (f89.symm.trans z1) (by decide) | exact c94 (t99.mpr z2)
                · first | exact absurd (f89.symm.trans z1) (by decide) | exact c100 (t34.mpr z2)
                · first | exact absurd (f109.symm.trans z1) (by decide) | exact c115 (t32.mpr z2)
              rw [if_neg hncl] at hQ
              refine wq_l 199 d250_198 rfl rfl rfl rfl ?_
              refine wq_k 201 44 d250_199 (by decide) rfl ?_
              refine wq_v 204 [_] d250_201 rfl rfl m238 rfl rfl (Nat.le_of_ble_eq_true rfl) rfl (rp_sg (k := 56) hN (by decide) (by decide) hS1 ?_)
              refine wq_b 253 207 d250_204 rfl (by decide) rfl (fun c204 => ?_) (fun c204 => ?_)
              · -- pc 253
                have f204 := b2z c204
                have hncm : ¬ (pg_is (pt_T t M n) 56 c = true ∧ i.1 = 34) := by
                  rintro ⟨z1, z2⟩
                  first | exact absurd (f204.symm.trans z1) (by decide) | exact c210 (t34.mpr z2)
                rw [if_neg hncm] at hQ
                refine wq_l 254 d250_253 rfl rfl rfl rfl ?_
                refine wq_v 257 [] d250_254 rfl rfl m230 rfl rfl (Nat.le_of_ble_eq_true rfl) rfl (rp_ref hN hS1 (fun σ4 h4 k4 => ?_))
                refine wq_k 258 2 d250_257 (by decide) rfl ?_
                refine wq_ri d250_258 (rfl) ?_
                exact hQ _ _ (xe_Xd (rp_Se h4 rfl (by omega)) (rp_Wk (xe_Bl B).2.2.2.2 k4) pg_stopd)
              · -- pc 207
                have f204 := b2n c204
                refine wq_l 208 d250_207 rfl rfl rfl rfl ?_
                refine wq_k 210 34 d250_208 (by decide) rfl ?_
                refine wq_b 253 213 d250_210 rfl (by decide) rfl (fun c210 => ?_) (fun c210 => ?_)
                · -- pc 253
                  have hncm : ¬ (pg_is (pt_T t M n) 56 c = true ∧ i.1 = 34) := by
                    rintro ⟨z1, z2⟩
                    first | exact absurd (f204.symm.trans z1) (by decide) | exact c210 (t34.mpr z2)
                  rw [if_neg hncm] at hQ
                  refine wq_l 254 d250_253 rfl rfl rfl rfl ?_
                  refine wq_v 257 [] d250_254 rfl rfl m230 rfl rfl (Nat.le_of_ble_eq_true rfl) rfl (rp_ref hN hS1 (fun σ4 h4 k4 => ?_))
                  refine wq_k 258 2 d250_257 (by decide) rfl ?_
                  refine wq_ri d250_258 (rfl) ?_
                  exact hQ _ _ (xe_Xd (rp_Se h4 rfl (by omega)) (rp_Wk (xe_Bl B).2.2.2.2 k4) pg_stopd)
                · -- pc 213
                  have hcm : pg_is (pt_T t M n) 56 c = true ∧ i.1 = 34 := ⟨f204, t34.mp (Classical.not_not.mp c210)⟩
                  rw [if_pos hcm] at hQ
                  obtain ⟨a, e, g1, g2, g3, g4, g5, g6, g7⟩ := xe_Bm B hcm.2
                  refine wq_l 214 d250_213 rfl rfl rfl rfl ?_
                  refine wq_a 215 d250_214 rfl rfl ?_
                  refine wq_gi (ci := 10) (j := 29) 218 d250_215 rfl rfl rfl rfl ?_
                  first | rw [h29] | rw [show (pm_pi (pm_pi σ 10 27 (nI P.length)) 10 8 (σ.1 10 8 - 1)).1 10 29 = nI (O'.length + 1) from h29] | rw [f29] | rw [k29]
                  refine wq_k 219 1 d250_218 (by decide) rfl ?_
                  refine wq_a 220 d250_219 rfl rfl ?_
                  rw [nI_pred]
                  refine wq_pf (ci := 10) (j := 29) 223 d250_220 rfl rfl rfl ⟨rfl, rfl⟩ rfl ?_
                  have f27 : (pm_pi σ 10 29 (nI O'.length)).1 10 27 = nI (P.length + 1) := h27
                  have f29 : (pm_pi σ 10 29 (nI O'.length)).1 10 29 = nI O'.length := rfl
                  have f60 : (pm_pi σ 10 29 (nI O'.length)).2.2 60 O'.length = nI e := g5
                  have f59 : (pm_pi σ 10 29 (nI O'.length)).2.2 59 P.length = nI a := g4
                  generalize pm_pi σ 10 29 (nI O'.length) = σ3 at *
                  refine wq_l 224 d250_223 rfl rfl rfl rfl ?_
                  refine wq_l 225 d250_224 rfl rfl rfl rfl ?_
                  refine wq_gr (ci := 10) (j := 26) (q := 59) 228 d250_225 rfl rfl rfl rfl ?_
                  refine wq_l 229 d250_228 rfl rfl rfl rfl ?_
                  refine wq_gi (ci := 10) (j := 27) 232 d250_229 rfl rfl rfl rfl ?_
                  first | rw [h27] | rw [f27] | rw [k27]
                  refine wq_k 233 1 d250_232 (by decide) rfl ?_
                  refine wq_a 234 d250_233 rfl rfl ?_
                  rw [nI_pred]
                  refine wq_al 235 d250_234 rfl rfl rfl (vp_in_iff.mpr (by simp only [i_lt, i_le, i_eq, ne_eq, Int32.reduceToInt, b2_0, b2_1, decide_eq_true_eq, decide_eq_false_iff_not, Bool.not_eq_true, Bool.not_eq_false, e2] at * <;> omega)) ?_
                  rw [ck, f59]
                  refine wq_l 236 d250_235 rfl rfl rfl rfl ?_
                  refine wq_gr (ci := 10) (j := 28) (q := 60) 239 d250_236 rfl rfl rfl rfl ?_
                  refine wq_l 240 d250_239 rfl rfl rfl rfl ?_
                  refine wq_gi (ci := 10) (j := 29) 243 d250_240 rfl rfl rfl rfl ?_
                  first | rw [h29] | rw [show (pm_pi (pm_pi σ 10 27 (nI P.length)) 10 8 (σ.1 10 8 - 1)).1 10 29 = nI (O'.length + 1) from h29] | rw [f29] | rw [k29]
                  refine wq_al 244 d250_243 rfl rfl rfl (vp_in_iff.mpr (by simp only [i_lt, i_le, i_eq, ne_eq, Int32.reduceToInt, b2_0, b2_1, decide_eq_true_eq, decide_eq_false_iff_not, Bool.not_eq_true, Bool.not_eq_false, e3] at * <;> omega)) ?_
                  rw [co, f60]
                  refine wq_v 247 [_, _] d250_244 rfl rfl m227 rfl rfl (Nat.le_of_ble_eq_true rfl) rfl (rp_add g6 g1 g2 g3 (fun σ4 h4 F4 => ?_))
                  refine wq_l 248 d250_247 rfl rfl rfl rfl ?_
                  refine wq_v 251 [] d250_248 rfl rfl m203 rfl rfl (Nat.le_of_ble_eq_true rfl) rfl (rp_go hN (pg_isl hcm.1 (by decide)) h4 (fun σ5 h5 k5 => ?_))
                  refine wq_k 252 0 d250_251 (by decide) rfl ?_
                  refine wq_ri d250_252 (rfl) ?_
                  refine hQ _ _ (xe_Xm (xe_Bk (g7 σ4 h4 F4) k5 h5) (by omega) (fun z => ?_))
                  have q1 := xe_ls (T := pt_T t M n) (c := c) hl
                  have q2 := xe_k0 (i := i) (P := P) (by omega)
                  have q3 := xe_k0 (i := (i.1, i.2.1, i.2.2.1, i.2.2.2 ++ v)) (P := P) (by show i.1 ≠ 35; omega)
                  have q4 := h5.2.2
                  have q5 : (rp_ad h a e).1 = h.1 := rfl
                  rw [if_pos rfl]
                  omega
            · -- pc 118
              have hcl : (pg_is (pt_T t M n) 53 c = true ∧ (i.1 = 99 ∨ i.1 = 34)) ∨ (pg_is (pt_T t M n) 55 c = true ∧ i.1 = 32) := by
                first | exact Or.inl ⟨f89, Or.inl (t99.mp c94)⟩ | exact Or.inl ⟨f89, Or.inr (t34.mp c100)⟩ | exact Or.inr ⟨f109, t32.mp (Classical.not_not.mp c115)⟩
              have hl44 : pg_live (pt_T t M n) c ∧ (pt_T t M n).1 c.1 ≠ 44 := by
                rcases hcl with z | z
                · exact pg_isl z.1 (by decide)
                · exact pg_isl z.1 (by decide)
              have hk0 := xe_k0 (i := i) (P := P) (by omega)
              rw [if_pos hcl] at hQ
              refine wq_l 119 d250_118 rfl rfl rfl rfl ?_
              refine wq_a 120 d250_119 rfl rfl ?_
              refine wq_gi (ci := 10) (j := 27) 123 d250_120 rfl rfl rfl rfl ?_
              first | rw [h27] | rw [f27] | rw [k27]
              refine wq_k 124 1 d250_123 (by decide) rfl ?_
              refine wq_a 125 d250_124 rfl rfl ?_
              rw [nI_pred]
              refine wq_pf (ci := 10) (j := 27) 128 d250_125 rfl rfl rfl ⟨rfl, rfl⟩ rfl ?_
              refine wq_l 129 d250_128 rfl rfl rfl rfl ?_
              refine wq_a 130 d250_129 rfl rfl ?_
              refine wq_gi (ci := 10) (j := 8) 133 d250_130 rfl rfl rfl rfl ?_
              refine wq_k 134 1 d250_133 (by decide) rfl ?_
              refine wq_a 135 d250_134 rfl rfl ?_
              rw [show (pm_pi σ 10 27 (nI P.length)).1 10 8 = σ.1 10 8 from rfl]
              refine wq_pf (ci := 10) (j := 8) 138 d250_135 rfl rfl rfl ⟨rfl, rfl⟩ rfl ?_
              refine wq_l 139 d250_138 rfl rfl rfl rfl ?_
              refine wq_a 140 d250_139 rfl rfl ?_
              refine wq_gi (ci := 10) (j := 29) 143 d250_140 rfl rfl rfl rfl ?_
              first | rw [h29] | rw [show (pm_pi (pm_pi σ 10 27 (nI P.length)) 10 8 (σ.1 10 8 - 1)).1 10 29 = nI (O'.length + 1) from h29] | rw [f29] | rw [k29]
              refine wq_k 144 1 d250_143 (by decide) rfl ?_
              refine wq_a 145 d250_144 rfl rfl ?_
              rw [nI_pred]
              refine wq_pf (ci := 10) (j := 29) 148 d250_145 rfl rfl rfl ⟨rfl, rfl⟩ rfl ?_
              have f27 : (pm_pi (pm_pi (pm_pi σ 10 27 (nI P.length)) 10 8 (σ.1 10 8 - 1)) 10 29 (nI O'.length)).1 10 27 = nI P.length := rfl
              have f29 : (pm_pi (pm_pi (pm_pi σ 10 27 (nI P.length)) 10 8 (σ.1 10 8 - 1)) 10 29 (nI O'.length)).1 10 29 = nI O'.length := rfl
              have f60 := show (pm_pi (pm_pi (pm_pi σ 10 27 (nI P.length)) 10 8 (σ.1 10 8 - 1)) 10 29 (nI O'.length)).2.2 60 O'.length = σ.2.2 60 O'.length from rfl
              have f59 := show (pm_pi (pm_pi (pm_pi σ 10 27 (nI P.length)) 10 8 (σ.1 10 8 - 1)) 10 29 (nI O'.length)).2.2 59 P.length = σ.2.2 59 P.length from rfl
              have c9 := fun hi => xe_Bc9 B hi (fun _ => by omega)
              have c3 := fun hi => xe_Bc3 B hi (fun _ => by omega)
              generalize pm_pi (pm_pi (pm_pi σ 10 27 (nI P.length)) 10 8 (σ.1 10 8 - 1)) 10 29 (nI O'.length) = σ3 at *
              refine wq_l 149 d250_148 rfl rfl rfl rfl ?_
              refine wq_gr (ci := 10) (j := 28) (q := 60) 152 d250_149 rfl rfl rfl rfl ?_
              refine wq_l 153 d250_152 rfl rfl rfl rfl ?_
              refine wq_gi (ci := 10) (j := 29) 156 d250_153 rfl rfl rfl rfl ?_
              first | rw [h29] | rw [show (pm_pi (pm_pi σ 10 27 (nI P.length)) 10 8 (σ.1 10 8 - 1)).1 10 29 = nI (O'.length + 1) from h29] | rw [f29] | rw [k29]
              refine wq_al 157 d250_156 rfl rfl rfl (vp_in_iff.mpr (by simp only [i_lt, i_le, i_eq, ne_eq, Int32.reduceToInt, b2_0, b2_1, decide_eq_true_eq, decide_eq_false_iff_not, Bool.not_eq_true, Bool.not_eq_false, e3] at * <;> omega)) ?_
              rw [co, f60]
              refine wq_s 158 d250_157 rfl rfl (Nat.le_of_ble_eq_true rfl) rfl rfl ?_
              refine wq_l 159 d250_158 rfl rfl rfl rfl ?_
              refine wq_k 160 (-1) d250_159 (by decide) rfl ?_
              refine wq_b 187 163 d250_160 rfl (by decide) rfl (fun c160 => ?_) (fun c160 => ?_)
              · -- pc 187
                have i99 := t99.mp c160
                obtain ⟨x, la, g1, g2, B3⟩ := c9 i99
                rw [if_pos i99] at hQ
                rw [g2]
                refine wq_l 188 d250_187 rfl rfl rfl rfl ?_
                refine wq_v 191 [] d250_188 rfl rfl m203 rfl rfl (Nat.le_of_ble_eq_true rfl) rfl (rp_go hN (show pg_live (pt_T t M n) (pg_dec c) ∧ (pt_T t M n).1 (pg_dec c).1 ≠ 44 from hl44) (xe_Bl B3).2.2.2.1 (fun σ5 h5 k5 => ?_))
                have q1 := xe_ls (T := pt_T t M n) (c := pg_dec c) hl
                have q2 : (pg_dec c).2.2 = c.2.2 - 1 ∧ (pg_dec c).1 = c.1 := ⟨rfl, rfl⟩
                have B5 := xe_Bk B3 k5 h5
                refine wq_l 192 d250_191 rfl rfl rfl rfl ?_
                refine wq_l 193 d250_192 rfl rfl rfl rfl ?_
                refine wq_v 196 [_] d250_193 rfl rfl m249 rfl rfl (Nat.le_of_ble_eq_true rfl) rfl (xe249 (by omega) (by omega) B5 g1 rfl (fun _ => by omega) (fun σ6 h6 B6 => ?_))
                refine wq_k 197 1 d250_196 (by decide) rfl ?_
                refine wq_ri d250_197 (rfl) ?_
                refine hQ _ _ (xe_Xg B6 (by omega) (fun z => ?_))
                have q5 := (xe_Bl B6).2.2.2.1.2.2
                rw [(xe_gvc P _ _).1] at q5
                omega
              · -- pc 163
                have i99 : ¬ i.1 = 99 := fun z => c160 (t99.mpr z)
                obtain ⟨a, e, g1, g2, g3, g4, g5, g6, g7⟩ := c3 i99
                rw [if_neg i99] at hQ
                rw [g4] at f59
                rw [g5]
                refine wq_l 164 d250_163 rfl rfl rfl rfl ?_
                refine wq_l 165 d250_164 rfl rfl rfl rfl ?_
                refine wq_gr (ci := 10) (j := 26) (q := 59) 168 d250_165 rfl rfl rfl rfl ?_
                refine wq_l 169 d250_168 rfl rfl rfl rfl ?_
                refine wq_gi (ci := 10) (j := 27) 172 d250_169 rfl rfl rfl rfl ?_
                first | rw [h27] | rw [f27] | rw [k27]
                refine wq_al 173 d250_172 rfl rfl rfl (vp_in_iff.mpr (by simp only [i_lt, i_le, i_eq, ne_eq, Int32.reduceToInt, b2_0, b2_1, decide_eq_true_eq, decide_eq_false_iff_not, Bool.not_eq_true, Bool.not_eq_false, e2] at * <;> omega)) ?_
                rw [ck, f59]
                refine wq_l 174 d250_173 rfl rfl rfl rfl ?_
                refine wq_v 177 [_, _] d250_174 rfl rfl m227 rfl rfl (Nat.le_of_ble_eq_true rfl) rfl (rp_add g6 g1 g2 g3 (fun σ4 h4 F4 => ?_))
                obtain ⟨x, la, j1, j2, B3⟩ := g7 σ4 h4 F4
                have k27 : σ4.1 10 27 = nI P.length := by rw [F4.1]; exact f27
                have k59 : σ4.2.2 59 P.length = nI a := by rw [(F4.2.2 59).resolve_left (by omega)]; exact f59
                refine wq_l 178 d250_177 rfl rfl rfl rfl ?_
                refine wq_gr (ci := 10) (j := 26) (q := 59) 181 d250_178 rfl rfl rfl rfl ?_
                refine wq_l 182 d250_181 rfl rfl rfl rfl ?_
                refine wq_gi (ci := 10) (j := 27) 185 d250_182 rfl rfl rfl rfl ?_
                first | rw [h27] | rw [f27] | rw [k27]
                refine wq_al 186 d250_185 rfl rfl rfl (vp_in_iff.mpr (by simp only [i_lt, i_le, i_eq, ne_eq, Int32.reduceToInt, b2_0, b2_1, decide_eq_true_eq, decide_eq_false_iff_not, Bool.not_eq_true, Bool.not_eq_false, e2] at * <;> omega)) ?_
                rw [ck, k59]
                refine wq_s 187 d250_186 rfl rfl (Nat.le_of_ble_eq_true rfl) rfl rfl ?_
                skip
                refine wq_l 188 d250_187 rfl rfl rfl rfl ?_
                refine wq_v 191 [] d250_188 rfl rfl m203 rfl rfl (Nat.le_of_ble_eq_true rfl) rfl (rp_go hN (show pg_live (pt_T t M n) (pg_dec c) ∧ (pt_T t M n).1 (pg_dec c).1 ≠ 44 from hl44) (xe_Bl B3).2.2.2.1 (fun σ5 h5 k5 => ?_))
                have q1 := xe_ls (T := pt_T t M n) (c := pg_dec c) hl
                have q2 : (pg_dec c).2.2 = c.2.2 - 1 ∧ (pg_dec c).1 = c.1 := ⟨rfl, rfl⟩
                have B5 := xe_Bk B3 k5 h5
                refine wq_l 192 d250_191 rfl rfl rfl rfl ?_
                refine wq_l 193 d250_192 rfl rfl rfl rfl ?_
                refine wq_v 196 [_] d250_193 rfl rfl m249 rfl rfl (Nat.le_of_ble_eq_true rfl) rfl (xe249 (by omega) (by omega) B5 j1 j2 (fun _ => by omega) (fun σ6 h6 B6 => ?_))
                refine wq_k 197 1 d250_196 (by decide) rfl ?_
                refine wq_ri d250_197 (rfl) ?_
                refine hQ _ _ (xe_Xg B6 (by omega) (fun z => ?_))
                have q5 := (xe_Bl B6).2.2.2.1.2.2
                rw [(xe_gvc P _ _).1] at q5
                omega
theorem xe250 {d : Nat} {Q : Option Value → pm_S → Prop} {t : Nat → Nat} {M n : Nat} {σ0 : pm_S} {h0 : rp_H} {o0 s : Nat} {σ : pm_S} {h : rp_H} {c : pg_C} {P : List xm_I} {O : List (List pg_N)} (hN : rp_n t M n) (hs : s ≤ 2900) (hl : pg_live (pt_T t M n) c) (X : xe_X t M n σ0 h0 o0 s σ h (1, c, P, O)) (hQ : ∀ σ' h', xe_X t M n σ0 h0 o0 s σ' h' (xm_bh (pt_T t M n) c P O) → Q (some (.int (nI (xm_bh (pt_T t M n) c P O).1))) σ') : pm_call pm_Y0 (d + 10) 250 [.ref 10] σ Q := by
  obtain ⟨b, B, ho, hkb, hol⟩ := X.2.2 hl
  have ho : c.2.2 = o0 + b + xe_m P := ho
  have hkb : xe_k P ≤ b := hkb
  have hol : O.length = xe_k P + 1 := hol
  have B : xe_B t M n σ0 h0 σ h c s b P O [] := B
  have hS := (xe_Bl B).2.2.2.1
  have h60 := (hS.1.2.2.1 hl).2.2.2.2.2.2.2
  have hkm := xe_km P
  have z0 := rp_l0 hS hl
  have htk := rp_tk hS z0
  obtain ⟨k1, k2, k3⟩ := rp_k6 hN hS z0
  have hstk := xs_stk _ k1 k2 k3
  cases hsg : pg_sign (pg_k (pt_T t M n) c) with
  | some g =>
    rw [xm_bs hsg] at hQ
    rw [hsg] at hstk
    have hstk : xs_st (rx_c (pg_k (pt_T t M n) c)) = nI (pg_bind g + 1) := hstk
    obtain ⟨o1, o2, o3, o4, o5⟩ := xs_opk _ k1 g hsg
    have hb7 : pg_bind g + 1 ≤ 7 := Nat.succ_le_succ (xe_bd g o2)
    have eb := nI_toInt (n := pg_bind g + 1) (by omega)
    obtain ⟨n1, n2, n3⟩ := xe_stn P O (pg_bind g + 1) hol
    have hkm1 := xe_km (xm_set (pg_bind g + 1) P O).1
    have h44 : (pt_T t M n).1 c.1 ≠ 44 := by
      have := rp_kk hS hl
      rw [show (pt_T t M n).1 c.1 = lx_k t M lx_ns c.1 from if_pos hS.1.2.1, ← this]
      exact o3
    refine wq_m m250 (Nat.le_of_ble_eq_true rfl) (by decide) rfl ?_
    refine wq_l 1 d250_0 rfl rfl rfl rfl ?_
    refine wq_gi (ci := 10) (j := 6) 4 d250_1 rfl rfl rfl rfl ?_
    refine wq_b 17 7 d250_4 rfl (by decide) rfl (fun c4 => absurd c4 (fun z => z z0)) (fun c4 => ?_)
    refine wq_l 8 d250_7 rfl rfl rfl rfl ?_
    refine wq_gi (ci := 10) (j := 3) 11 d250_8 rfl rfl rfl rfl ?_
    rw [htk]
    refine wq_vs 14 [_] d250_11 rfl rfl m251 rfl (Nat.le_of_ble_eq_true rfl) rfl (sp251 ?_)
    rw [hstk]
    refine wq_g 18 d250_14 (by decide) ?_
    refine wq_s 19 d250_18 rfl rfl (Nat.le_of_ble_eq_true rfl) rfl rfl ?_
    refine wq_l 20 d250_19 rfl rfl rfl rfl ?_
    refine wq_b 65 23 d250_20 rfl (by decide) rfl (fun c20 => absurd c20 (by simp only [i_lt, i_le, i_eq, ne_eq, Int32.reduceToInt, b2_0, b2_1, decide_eq_true_eq, decide_eq_false_iff_not, Bool.not_eq_true, Bool.not_eq_false, eb]; omega)) (fun c20 => ?_)
    refine wq_l 24 d250_23 rfl rfl rfl rfl ?_
    refine wq_l 25 d250_24 rfl rfl rfl rfl ?_
    refine wq_v 28 [_] d250_25 rfl rfl m252 rfl rfl (Nat.le_of_ble_eq_true rfl) rfl (xe252 hb7 hl B (by omega) (by omega) hol (fun σ1 h1 B1 => ?_))
    have hS1 := (xe_Bl B1).2.2.2.1
    have z1 := rp_l0 hS1 hl
    refine wq_l 29 d250_28 rfl rfl rfl rfl ?_
    refine wq_l 30 d250_29 rfl rfl rfl rfl ?_
    refine wq_k 32 35 d250_30 (by decide) rfl ?_
    refine wq_l 33 d250_32 rfl rfl rfl rfl ?_
    refine wq_gi (ci := 10) (j := 4) 36 d250_33 rfl rfl rfl rfl ?_
    rw [rp_pl hS1 z1]
    refine wq_l 37 d250_36 rfl rfl rfl rfl ?_
    refine wq_gi (ci := 10) (j := 3) 40 d250_37 rfl rfl rfl rfl ?_
    rw [rp_tk hS1 z1]
    refine wq_vs 43 [_] d250_40 rfl rfl m255 rfl (Nat.le_of_ble_eq_true rfl) rfl (sp255 ?_)
    rw [o1]
    refine wq_v 46 [_, _, _] d250_43 rfl rfl m202 rfl rfl (Nat.le_of_ble_eq_true rfl) rfl (rp_mk2 hN (by omega) hS1 (fun σ2 h2 m2 x2 => ?_))
    obtain ⟨x, la, e1, e2, B2⟩ := xe_Bo B1 (rp_Oq1 (k := 35) (p := pg_pl (pt_T t M n) c) (v := nI g) hS1.2.1 m2 (fun w => ⟨rfl, rp_V0 (by decide)⟩)) x2 h2
    have B3 := xe_Bu (i := (35, pg_pl (pt_T t M n) c, nI g, [])) B2 (xe_it (show (35 : Nat) ≤ 98 by decide) e2 (fun _ => ⟨g, o2, rfl⟩) rfl)
    rw [show xe_c (x :: la) = nI h1.1 from congrArg nI e1] at B3
    have B4 := xe_Bq B3
    have h30 := (xe_Bl B3).2.2.1
    refine wq_v 49 [_] d250_46 rfl rfl m247 rfl rfl (Nat.le_of_ble_eq_true rfl) rfl (sp247 (k := (xm_set (pg_bind g + 1) P O).1.length) (xe_Bl B2).1 (by omega) ?_)
    refine wq_l 50 d250_49 rfl rfl rfl rfl ?_
    refine wq_a 51 d250_50 rfl rfl ?_
    refine wq_gi (ci := 10) (j := 30) 54 d250_51 rfl rfl rfl rfl ?_
    rw [h30]
    refine wq_k 55 1 d250_54 (by decide) rfl ?_
    refine wq_a 56 d250_55 rfl rfl ?_
    rw [show nI b + 1 = nI (b + 1) from (nI_succ b).symm]
    refine wq_pf (ci := 10) (j := 30) 59 d250_56 rfl rfl rfl ⟨rfl, rfl⟩ rfl ?_
    refine wq_l 60 d250_59 rfl rfl rfl rfl ?_
    refine wq_v 63 [] d250_60 rfl rfl m248 rfl rfl (Nat.le_of_ble_eq_true rfl) rfl (rp_deep hN ⟨hl, h44⟩ (xe_Bl B4).2.2.2.1 (fun σ5 h5 k5 => ?_))
    refine wq_k 64 0 d250_63 (by decide) rfl ?_
    refine wq_ri d250_64 (rfl) ?_
    refine hQ _ _ (xe_Xm (xe_Bk B4 k5 h5) (by omega) (fun z => ?_))
    have q1 := xe_ln z
    have q2 := xe_k1 (i := ((35, pg_pl (pt_T t M n) c, nI g, []) : xm_I)) (P := (xm_set (pg_bind g + 1) P O).1) rfl
    have q3 : (rp_nw h1).1 = h1.1 + 1 := rfl
    have q4 := hS1.2.2
    rw [if_pos rfl]
    omega
  | none =>
    rw [xm_bn hsg] at hQ
    rw [hsg] at hstk
    have hstk : xs_st (rx_c (pg_k (pt_T t M n) c)) = nI 0 := hstk
    obtain ⟨n1, n2, n3⟩ := xe_stn P O 1 hol
    have hkm1 := xe_km (xm_set 1 P O).1
    refine wq_m m250 (Nat.le_of_ble_eq_true rfl) (by decide) rfl ?_
    refine wq_l 1 d250_0 rfl rfl rfl rfl ?_
    refine wq_gi (ci := 10) (j := 6) 4 d250_1 rfl rfl rfl rfl ?_
    refine wq_b 17 7 d250_4 rfl (by decide) rfl (fun c4 => absurd c4 (fun z => z z0)) (fun c4 => ?_)
    refine wq_l 8 d250_7 rfl rfl rfl rfl ?_
    refine wq_gi (ci := 10) (j := 3) 11 d250_8 rfl rfl rfl rfl ?_
    rw [htk]
    refine wq_vs 14 [_] d250_11 rfl rfl m251 rfl (Nat.le_of_ble_eq_true rfl) rfl (sp251 ?_)
    rw [hstk]
    refine wq_g 18 d250_14 (by decide) ?_
    refine wq_s 19 d250_18 rfl rfl (Nat.le_of_ble_eq_true rfl) rfl rfl ?_
    refine wq_l 20 d250_19 rfl rfl rfl rfl ?_
    refine wq_b 65 23 d250_20 rfl (by decide) rfl (fun c20 => ?_) (fun c20 => absurd (by decide) c20)
    refine wq_l 66 d250_65 rfl rfl rfl rfl ?_
    refine wq_k 67 1 d250_66 (by decide) rfl ?_
    refine wq_v 70 [_] d250_67 rfl rfl m252 rfl rfl (Nat.le_of_ble_eq_true rfl) rfl (xe252 (k := 1) (by decide) hl B (by omega) (by omega) hol (fun σ1 h1 B1 => ?_))
    revert hQ B1
    generalize (xm_set 1 P O).1 = P1 at *
    generalize (xm_set 1 P O).2 = O1 at *
    intro hQ B1
    exact xe250b hN hs hl n1 (by omega) (by omega) (by omega) B1 hQ
