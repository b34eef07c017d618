/-! A DECLARATION in the reference: behind its names -/
theorem re277s {d : Nat} {l : List pg_N} {a : Nat → Nat} {R : Int32 → Int32 → Prop} {σ0 σ : pm_S} {fl : Bool} {u : Nat} {A : rl_A} {Q : Option Value → pm_S → Prop} {NN i m : Nat} {w5 w6 w7 w8 w9 w10 w11 : Value} (hG : lg_G l NN) (h : rr_I l a R σ0 σ fl u A) (i0 : i < l.length) (hml : m ≤ 20000) (hc : ∀ j, j < m → i + 1 + j ∈ rl_c l i ∧ rl_z l (i + 1 + j) = 1) (hmz : i + 1 + m < i + rl_z l i) (hg : pm_WP pm_Y0 (pm_call pm_Y0 (d + 2)) 10 prog_14_method_91_code (some FieldType.int) Q 35 [.ref 10, .int (nI (a i)), .int (nI m), .int (nI (a (i + 1 + m))), .int (nI m), w5, w6, w7, w8, w9, w10, w11] [] σ) : ∀ (n k : Nat), k + n = m → pm_WP pm_Y0 (pm_call pm_Y0 (d + 2)) 10 prog_14_method_91_code (some FieldType.int) Q 16 [.ref 10, .int (nI (a i)), .int (nI m), .int (nI (a (i + 1 + k))), .int (nI k), w5, w6, w7, w8, w9, w10, w11] [] σ := by
  intro n
  have zi := (rl_zc hG.1 i0).2
  have em := nI_toInt (n := m) (by omega)
  induction n with
  | zero =>
    intro k hk
    obtain rfl : k = m := by omega
    refine wq_l 18 d277_16 rfl rfl rfl rfl ?_
    refine wq_l 19 d277_18 rfl rfl rfl rfl ?_
    refine wq_b 35 22 d277_19 rfl (by decide) rfl (fun c19 => ?_) (fun c19 => absurd (by rw [i_le]; exact Int.le_refl _) c19)
    exact hg
  | succ n ih =>
    intro k hk
    have ek := nI_toInt (n := k) (by omega)
    obtain ⟨c1, c2⟩ := hc k (by omega)
    have bc := rt_b (rr_T h) (show i + 1 + k < l.length by omega)
    have en := rt_n (rr_T h) hG i0 c1
    rw [c2] at en
    have en := en.trans (if_pos (by omega))
    refine wq_l 18 d277_16 rfl rfl rfl rfl ?_
    refine wq_l 19 d277_18 rfl rfl rfl rfl ?_
    refine wq_b 35 22 d277_19 rfl (by decide) rfl (fun c19 => absurd c19 (by rw [i_le, em, ek]; omega)) (fun c19 => ?_)
    refine wq_l 23 d277_22 rfl rfl rfl rfl ?_
    refine wq_gr (ci := 10) (j := 21) (q := 54) 26 d277_23 rfl rfl rfl rfl ?_
    refine wq_l 27 d277_26 rfl rfl rfl rfl ?_
    refine wq_al 28 d277_27 rfl rfl rfl (bc) ?_
    rw [en]
    refine wq_s 29 d277_28 rfl rfl (Nat.le_of_ble_eq_true rfl) rfl rfl ?_
    refine wq_i 32 d277_29 rfl rfl rfl ?_
    refine wq_g 16 d277_32 (by decide) ?_
    rw [show nI k + Int32.ofInt 1 = nI (k + 1) from nI_1 _]
    exact ih (k + 1) (by omega)
theorem re277o {d : Nat} {l : List pg_N} {a : Nat → Nat} {R : Int32 → Int32 → Prop} {σ0 σ : pm_S} {fl : Bool} {u : Nat} {A : rl_A} {Q : Option Value → pm_S → Prop} {NN i m yt part s : Nat} {c at_ x6 : Int32} {w9 w10 w11 : Value} (hG : lg_G l NN) (h : rr_I l a R σ0 σ fl u A) (hp : pv_B A.1) (hB : A.1 ≠ []) (yl : yt < l.length) (d5 : rl_k l yt = 8 ∨ rl_k l yt = 9 ∨ rl_k l yt = 10) (h10 : rl_k l yt = 10 → (rl_inst A.1 (rl_v l yt)).isSome = true) (es : s = rl_k l yt - 8) (hg : pm_WP pm_Y0 (pm_call pm_Y0 (d + 2)) 10 prog_14_method_91_code (some FieldType.int) Q 177 [.ref 10, .int (nI (a i)), .int (nI m), .int c, .int at_, .int (nI (a yt)), .int x6, .int (nI part), .int (nI s), .int (rv_ty s (rl_dt l A yt)), w10, w11] [] σ) : pm_WP pm_Y0 (pm_call pm_Y0 (d + 2)) 10 prog_14_method_91_code (some FieldType.int) Q 128 [.ref 10, .int (nI (a i)), .int (nI m), .int c, .int at_, .int (nI (a yt)), .int x6, .int (nI part), .int (nI s), w9, w10, w11] [] σ := by
  have by' := rt_b (rr_T h) yl
  rcases d5 with k8 | k9 | k10
  · have v1 := rt_v (rr_T h) yl (by rw [k8]; rfl)
    obtain rfl : s = 0 := by omega
    have s0 : 0 = 0 := rfl
    have e9 : rv_ty 0 (rl_dt l A yt) = rl_v l yt := by
      unfold rv_ty rl_dt rl_st
      rw [if_neg (by omega), if_neg (by omega), if_neg (by omega)]
    rw [e9] at hg
    refine wq_l 130 d277_128 rfl rfl rfl rfl ?_
    refine wq_b 143 133 d277_130 rfl (by decide) rfl (fun c130 => absurd c130 (fun z => z rfl)) (fun c130 => ?_)
    refine wq_l 134 d277_133 rfl rfl rfl rfl ?_
    refine wq_gr (ci := 10) (j := 18) (q := 51) 137 d277_134 rfl rfl rfl rfl ?_
    refine wq_l 139 d277_137 rfl rfl rfl rfl ?_
    refine wq_al 140 d277_139 rfl rfl rfl (by') ?_
    rw [v1]
    refine wq_g 175 d277_140 (by decide) ?_
    refine wq_s 177 d277_175 rfl rfl (Nat.le_of_ble_eq_true rfl) rfl rfl ?_
    exact hg
  · obtain ⟨q1, q2, q3, q4, q5⟩ := lg_9c hG yl k9
    have yz := (rl_zc hG.1 yl).2
    obtain rfl : s = 1 := by omega
    have s0 : 1 = 1 := rfl
    have ll : (rl_c l yt).getLast? = some (yt + 3) := by rw [q2]; rfl
    have el := rt_l (rr_T h) yl ll
    have b3 := rt_b (rr_T h) (show yt + 3 < l.length by omega)
    have v1 := rt_v (rr_T h) (show yt + 3 < l.length by omega) (by rw [q5]; rfl)
    have e9 : rv_ty 1 (rl_dt l A yt) = rl_v l (yt + 3) := by
      unfold rv_ty rl_dt rl_st
      rw [if_neg (by omega), if_neg (by omega), if_pos k9]
    rw [e9] at hg
    refine wq_l 130 d277_128 rfl rfl rfl rfl ?_
    refine wq_b 143 133 d277_130 rfl (by decide) rfl (fun c130 => ?_) (fun c130 => absurd (by decide) c130)
    refine wq_l 145 d277_143 rfl rfl rfl rfl ?_
    refine wq_k 146 1 d277_145 (by decide) rfl ?_
    refine wq_b 164 149 d277_146 rfl (by decide) rfl (fun c146 => absurd c146 (fun z => z rfl)) (fun c146 => ?_)
    refine wq_l 150 d277_149 rfl rfl rfl rfl ?_
    refine wq_gr (ci := 10) (j := 18) (q := 51) 153 d277_150 rfl rfl rfl rfl ?_
    refine wq_l 154 d277_153 rfl rfl rfl rfl ?_
    refine wq_gr (ci := 10) (j := 20) (q := 53) 157 d277_154 rfl rfl rfl rfl ?_
    refine wq_l 159 d277_157 rfl rfl rfl rfl ?_
    refine wq_al 160 d277_159 rfl rfl rfl (by') ?_
    rw [el]
    refine wq_al 161 d277_160 rfl rfl rfl (b3) ?_
    rw [v1]
    refine wq_g 175 d277_161 (by decide) ?_
    refine wq_s 177 d277_175 rfl rfl (Nat.le_of_ble_eq_true rfl) rfl rfl ?_
    exact hg
  · obtain ⟨q, hq⟩ := Option.isSome_iff_exists.mp (h10 k10)
    obtain rfl : s = 2 := by omega
    have s0 : 2 = 2 := rfl
    have hB9 : A.1.length ≤ 409 := h.2.2.2.2.1.1
    have hql : q < 9 + 409 := by rcases rl_instl hq with w | ⟨w, b, w2, w3, w4, w5⟩ <;> omega
    have nk : rp_nk (rl_k l yt) = true := by rw [k10]; rfl
    have v1 := rt_m (rr_T h) yl
    have hR := rt_R (rr_T h) yl nk
    have e9 : rv_ty 2 (rl_dt l A yt) = rv_q q := by
      unfold rv_ty rl_dt
      rw [if_pos s0, if_pos k10, hq]
      show rv_q (nI q).toNatClampNeg = _
      rw [nI_clamp (by omega)]
    rw [e9] at hg
    refine wq_l 130 d277_128 rfl rfl rfl rfl ?_
    refine wq_b 143 133 d277_130 rfl (by decide) rfl (fun c130 => ?_) (fun c130 => absurd (by decide) c130)
    refine wq_l 145 d277_143 rfl rfl rfl rfl ?_
    refine wq_k 146 1 d277_145 (by decide) rfl ?_
    refine wq_b 164 149 d277_146 rfl (by decide) rfl (fun c146 => ?_) (fun c146 => absurd (by decide) c146)
    refine wq_l 165 d277_164 rfl rfl rfl rfl ?_
    refine wq_l 166 d277_165 rfl rfl rfl rfl ?_
    refine wq_gr (ci := 10) (j := 18) (q := 51) 169 d277_166 rfl rfl rfl rfl ?_
    refine wq_l 171 d277_169 rfl rfl rfl rfl ?_
    refine wq_al 172 d277_171 rfl rfl rfl (by') ?_
    rw [v1]
    refine wq_v 175 [_] d277_172 rfl rfl m279 rfl rfl (Nat.le_of_ble_eq_true rfl) rfl (re279 h hp hB hR ?_)
    rw [hq]
    refine wq_s 177 d277_175 rfl rfl (Nat.le_of_ble_eq_true rfl) rfl rfl ?_
    exact hg
theorem re277b {d : Nat} {l : List pg_N} {a : Nat → Nat} {R : Int32 → Int32 → Prop} {σ0 σ : pm_S} {fl : Bool} {u : Nat} {A : rl_A} {Q : Option Value → pm_S → Prop} {i m yt part s e : Nat} {hp cs : Bool} {c at_ x6 x9 t : Int32} {w10 w11 : Value} (h : rr_I l a R σ0 σ fl u A) (s2 : s ≤ 2) (e9 : s ≠ 2 → x9 = t) (hm1 : hp = false → at_ = -1) (hm2 : hp = true → ∃ ar o, ar < 6 ∧ o < 256 ∧ at_ = nI (256 * ar + o)) (c1 : cs = false → x6 = -1) (c2 : cs = true → x6 = nI (a e) ∧ e < l.length ∧ (rl_k l e = 30 ∨ rl_k l e = 31)) (h15 : hp = true ∧ (s ≠ 0 ∨ t ≠ (if rl_area at_ < 3 then 0 else 1)) → Q (some (.int 15)) σ) (h18 : cs = true ∧ (s = 2 ∨ (hp && decide (rl_area at_ % 3 = 0)) = true ∨ rl_bad (rl_k l e) (rl_v l e) t = true) → ¬ (hp = true ∧ (s ≠ 0 ∨ t ≠ (if rl_area at_ < 3 then 0 else 1))) → Q (some (.int 18)) σ) (hg : ¬ (hp = true ∧ (s ≠ 0 ∨ t ≠ (if rl_area at_ < 3 then 0 else 1))) → ¬ (cs = true ∧ (s = 2 ∨ (hp && decide (rl_area at_ % 3 = 0)) = true ∨ rl_bad (rl_k l e) (rl_v l e) t = true)) → pm_WP pm_Y0 (pm_call pm_Y0 (d + 2)) 10 prog_14_method_91_code (some FieldType.int) Q 262 [.ref 10, .int (nI (a i)), .int (nI m), .int c, .int at_, .int (nI (a yt)), .int x6, .int (nI part), .int (nI s), .int x9, w10, w11] [] σ) : pm_WP pm_Y0 (pm_call pm_Y0 (d + 2)) 10 prog_14_method_91_code (some FieldType.int) Q 177 [.ref 10, .int (nI (a i)), .int (nI m), .int c, .int at_, .int (nI (a yt)), .int x6, .int (nI part), .int (nI s), .int x9, w10, w11] [] σ := by
  have est := nI_toInt (n := s) (by omega)
  cases hp with
  | false =>
    obtain rfl := hm1 rfl
    have n15 : ¬ (false = true ∧ (s ≠ 0 ∨ t ≠ (if rl_area (-1) < 3 then 0 else 1))) := fun z => absurd z.1 (by decide)
    cases cs with
    | false =>
      obtain rfl := c1 rfl
      refine wq_l 179 d277_177 rfl rfl rfl rfl ?_
      refine wq_b 210 182 d277_179 rfl (by decide) rfl (fun c179 => ?_) (fun c179 => absurd (by decide) c179)
      refine wq_l 212 d277_210 rfl rfl rfl rfl ?_
      refine wq_b 262 215 d277_212 rfl (by decide) rfl (fun c212 => ?_) (fun c212 => absurd (by decide) c212)
      exact hg n15 (fun z => absurd z.1 (by decide))
    | true =>
      obtain ⟨rfl, el, ek⟩ := c2 rfl
      have be := rt_b (rr_T h) el
      have ee := nI_toInt (n := a e) (by have := ((rr_T h).2.2.1 e el).1; omega)
      have ke := rt_k (rr_T h) el
      have ve := rt_v (rr_T h) el (by rcases ek with q | q <;> rw [q] <;> rfl)
      refine wq_l 179 d277_177 rfl rfl rfl rfl ?_
      refine wq_b 210 182 d277_179 rfl (by decide) rfl (fun c179 => ?_) (fun c179 => absurd (by decide) c179)
      refine wq_l 212 d277_210 rfl rfl rfl rfl ?_
      refine wq_b 262 215 d277_212 rfl (by decide) rfl (fun c212 => absurd c212 (by rw [i_lt, ee]; show ¬ _ < (0 : Int); omega)) (fun c212 => ?_)
      refine wq_l 217 d277_215 rfl rfl rfl rfl ?_
      refine wq_k 218 2 d277_217 (by decide) rfl ?_
      refine wq_b 259 221 d277_218 rfl (by decide) rfl (fun c218 => ?_) (fun c218 => ?_)
      · -- pc 259
        refine wq_k 261 18 d277_259 (by decide) rfl ?_
        refine wq_ri d277_261 (rfl) ?_
        have c218 : nI s = 2 := c218
        exact h18 ⟨rfl, Or.inl (hp_inj (b := 2) (by omega) (by decide) c218)⟩ n15
      · -- pc 221
        refine wq_l 223 d277_221 rfl rfl rfl rfl ?_
        refine wq_b 237 226 d277_223 rfl (by decide) rfl (fun c223 => ?_) (fun c223 => absurd (by decide) c223)
        refine wq_l 238 d277_237 rfl rfl rfl rfl ?_
        refine wq_gr (ci := 10) (j := 16) (q := 49) 241 d277_238 rfl rfl rfl rfl ?_
        refine wq_l 243 d277_241 rfl rfl rfl rfl ?_
        refine wq_al 244 d277_243 rfl rfl rfl (be) ?_
        rw [ke]
        refine wq_l 245 d277_244 rfl rfl rfl rfl ?_
        refine wq_gr (ci := 10) (j := 18) (q := 51) 248 d277_245 rfl rfl rfl rfl ?_
        refine wq_l 250 d277_248 rfl rfl rfl rfl ?_
        refine wq_al 251 d277_250 rfl rfl rfl (be) ?_
        rw [ve]
        refine wq_l 253 d277_251 rfl rfl rfl rfl ?_
        refine wq_vs 256 [_, _, _] d277_253 rfl rfl m280 rfl (Nat.le_of_ble_eq_true rfl) rfl (sp280 (by omega) ?_)
        refine wq_b 262 259 d277_256 rfl (by decide) rfl (fun c256 => ?_) (fun c256 => ?_)
        · -- pc 262
          have c218 : ¬ nI s = 2 := c218
          refine hg n15 (fun z => ?_)
          rcases z.2 with w | w | w
          · exact c218 (by rw [w]; rfl)
          · exact absurd w (by decide)
          · have c256 : b2 (rl_bad (rl_k l e) (rl_v l e) x9) = 0 := c256
            rw [e9 (fun z => c218 (by rw [z]; rfl)), w] at c256
            exact absurd c256 (by decide)
        · -- pc 259
          refine wq_k 261 18 d277_259 (by decide) rfl ?_
          refine wq_ri d277_261 (rfl) ?_
          have c256 : ¬ b2 (rl_bad (rl_k l e) (rl_v l e) x9) = 0 := c256
          rw [e9 (fun z => c218 (by rw [z]; rfl))] at c256
          exact h18 ⟨rfl, Or.inr (Or.inr (b2n c256))⟩ n15
  | true =>
    obtain ⟨ar, o, ha, ho, rfl⟩ := hm2 rfl
    have e0 := nI_toInt (n := 256 * ar + o) (by omega)
    have ea := pl_ar ha ho
    rw [ea] at h15 h18 hg
    have edv : nI (256 * ar + o) / 256 = nI ar := by
      rw [show (256 : Int32) = nI 256 from rfl, nI_dv (by omega) (by omega)]
      exact congrArg nI (by omega)
    have edm : nI ar - nI ar / 3 * 3 = nI (ar % 3) := nI_rm (b := 3) (by omega) (by omega)
    have eat := nI_toInt (n := ar) (by omega)
    have em3 := nI_toInt (n := ar % 3) (by omega)
    cases cs with
    | false =>
      obtain rfl := c1 rfl
      refine wq_l 179 d277_177 rfl rfl rfl rfl ?_
      refine wq_b 210 182 d277_179 rfl (by decide) rfl (fun c179 => absurd c179 (by rw [i_lt, e0]; show ¬ _ < (0 : Int); omega)) (fun c179 => ?_)
      refine wq_l 184 d277_182 rfl rfl rfl rfl ?_
      refine wq_b 207 187 d277_184 rfl (by decide) rfl (fun c184 => ?_) (fun c184 => ?_)
      · -- pc 207
        refine wq_k 209 15 d277_207 (by decide) rfl ?_
        refine wq_ri d277_209 (rfl) ?_
        rw [i_lt, est] at c184
        have c184 : (0 : Int) < _ := c184
        exact h15 ⟨rfl, Or.inl (by omega)⟩
      · -- pc 187
        refine wq_l 189 d277_187 rfl rfl rfl rfl ?_
        refine wq_l 191 d277_189 rfl rfl rfl rfl ?_
        refine wq_k 194 256 d277_191 (by decide) rfl ?_
        refine wq_dv 195 d277_194 rfl rfl (by decide) ?_
        rw [edv]
        refine wq_k 196 3 d277_195 (by decide) rfl ?_
        refine wq_b 203 199 d277_196 rfl (by decide) rfl (fun c196 => ?_) (fun c196 => ?_)
        · -- pc 203
          refine wq_k 204 1 d277_203 (by decide) rfl ?_
          refine wq_b 210 207 d277_204 rfl (by decide) rfl (fun c204 => ?_) (fun c204 => ?_)
          · -- pc 210
            refine wq_l 212 d277_210 rfl rfl rfl rfl ?_
            refine wq_b 262 215 d277_212 rfl (by decide) rfl (fun c212 => ?_) (fun c212 => absurd (by decide) c212)
            rw [i_lt, est] at c184
            have c184 : ¬ (0 : Int) < _ := c184
            have s0 : s = 0 := by omega
            have c204 : x9 = 1 := c204
            rw [e9 (by omega)] at c204
            rw [i_le, eat] at c196
            have c196 : (3 : Int) ≤ _ := c196
            have n15 : ¬ (true = true ∧ (s ≠ 0 ∨ t ≠ (if ar < 3 then 0 else 1))) := fun z => by
              rcases z.2 with w | w
              · exact w s0
              · rw [if_neg (by omega)] at w; exact w c204
            exact hg n15 (fun z => absurd z.1 (by decide))
          · -- pc 207
            refine wq_k 209 15 d277_207 (by decide) rfl ?_
            refine wq_ri d277_209 (rfl) ?_
            rw [i_lt, est] at c184
            have c184 : ¬ (0 : Int) < _ := c184
            have s0 : s = 0 := by omega
            have c204 : ¬ x9 = 1 := c204
            rw [e9 (by omega)] at c204
            rw [i_le, eat] at c196
            have c196 : (3 : Int) ≤ _ := c196
            exact h15 ⟨rfl, Or.inr (by rw [if_neg (by omega)]; exact c204)⟩
        · -- pc 199
          refine wq_k 200 0 d277_199 (by decide) rfl ?_
          refine wq_g 204 d277_200 (by decide) ?_
          refine wq_b 210 207 d277_204 rfl (by decide) rfl (fun c204 => ?_) (fun c204 => ?_)
          · -- pc 210
            refine wq_l 212 d277_210 rfl rfl rfl rfl ?_
            refine wq_b 262 215 d277_212 rfl (by decide) rfl (fun c212 => ?_) (fun c212 => absurd (by decide) c212)
            rw [i_lt, est] at c184
            have c184 : ¬ (0 : Int) < _ := c184
            have s0 : s = 0 := by omega
            have c204 : x9 = 0 := c204
            rw [e9 (by omega)] at c204
            rw [i_le, eat] at c196
            have c196 : ¬ (3 : Int) ≤ _ := c196
            have n15 : ¬ (true = true ∧ (s ≠ 0 ∨ t ≠ (if ar < 3 then 0 else 1))) := fun z => by
              rcases z.2 with w | w
              · exact w s0
              · rw [if_pos (by omega)] at w; exact w c204
            exact hg n15 (fun z => absurd z.1 (by decide))
          · -- pc 207
            refine wq_k 209 15 d277_207 (by decide) rfl ?_
            refine wq_ri d277_209 (rfl) ?_
            rw [i_lt, est] at c184
            have c184 : ¬ (0 : Int) < _ := c184
            have s0 : s = 0 := by omega
            have c204 : ¬ x9 = 0 := c204
            rw [e9 (by omega)] at c204
            rw [i_le, eat] at c196
            have c196 : ¬ (3 : Int) ≤ _ := c196
            exact h15 ⟨rfl, Or.inr (by rw [if_pos (by omega)]; exact c204)⟩
    | true =>
      obtain ⟨rfl, el, ek⟩ := c2 rfl
      have be := rt_b (rr_T h) el
      have ee := nI_toInt (n := a e) (by have := ((rr_T h).2.2.1 e el).1; omega)
      have ke := rt_k (rr_T h) el
      have ve := rt_v (rr_T h) el (by rcases ek with q | q <;> rw [q] <;> rfl)
      refine wq_l 179 d277_177 rfl rfl rfl rfl ?_
      refine wq_b 210 182 d277_179 rfl (by decide) rfl (fun c179 => absurd c179 (by rw [i_lt, e0]; show ¬ _ < (0 : Int); omega)) (fun c179 => ?_)
      refine wq_l 184 d277_182 rfl rfl rfl rfl ?_
      refine wq_b 207 187 d277_184 rfl (by decide) rfl (fun c184 => ?_) (fun c184 => ?_)
      · -- pc 207
        refine wq_k 209 15 d277_207 (by decide) rfl ?_
        refine wq_ri d277_209 (rfl) ?_
        rw [i_lt, est] at c184
        have c184 : (0 : Int) < _ := c184
        exact h15 ⟨rfl, Or.inl (by omega)⟩
      · -- pc 187
        refine wq_l 189 d277_187 rfl rfl rfl rfl ?_
        refine wq_l 191 d277_189 rfl rfl rfl rfl ?_
        refine wq_k 194 256 d277_191 (by decide) rfl ?_
        refine wq_dv 195 d277_194 rfl rfl (by decide) ?_
        rw [edv]
        refine wq_k 196 3 d277_195 (by decide) rfl ?_
        refine wq_b 203 199 d277_196 rfl (by decide) rfl (fun c196 => ?_) (fun c196 => ?_)
        · -- pc 203
          refine wq_k 204 1 d277_203 (by decide) rfl ?_
          refine wq_b 210 207 d277_204 rfl (by decide) rfl (fun c204 => ?_) (fun c204 => ?_)
          · -- pc 210
            refine wq_l 212 d277_210 rfl rfl rfl rfl ?_
            refine wq_b 262 215 d277_212 rfl (by decide) rfl (fun c212 => absurd c212 (by rw [i_lt, ee]; show ¬ _ < (0 : Int); omega)) (fun c212 => ?_)
            refine wq_l 217 d277_215 rfl rfl rfl rfl ?_
            refine wq_k 218 2 d277_217 (by decide) rfl ?_
            refine wq_b 259 221 d277_218 rfl (by decide) rfl (fun c218 => ?_) (fun c218 => ?_)
            · -- pc 259
              refine wq_k 261 18 d277_259 (by decide) rfl ?_
              refine wq_ri d277_261 (rfl) ?_
              rw [i_lt, est] at c184
              have c184 : ¬ (0 : Int) < _ := c184
              have s0 : s = 0 := by omega
              have c204 : x9 = 1 := c204
              rw [e9 (by omega)] at c204
              rw [i_le, eat] at c196
              have c196 : (3 : Int) ≤ _ := c196
              have n15 : ¬ (true = true ∧ (s ≠ 0 ∨ t ≠ (if ar < 3 then 0 else 1))) := fun z => by
                rcases z.2 with w | w
                · exact w s0
                · rw [if_neg (by omega)] at w; exact w c204
              have c218 : nI s = 2 := c218
              exact h18 ⟨rfl, Or.inl (hp_inj (b := 2) (by omega) (by decide) c218)⟩ n15
            · -- pc 221
              refine wq_l 223 d277_221 rfl rfl rfl rfl ?_
              refine wq_b 237 226 d277_223 rfl (by decide) rfl (fun c223 => absurd c223 (by rw [i_lt, e0]; show ¬ _ < (0 : Int); omega)) (fun c223 => ?_)
              refine wq_l 228 d277_226 rfl rfl rfl rfl ?_
              refine wq_k 231 256 d277_228 (by decide) rfl ?_
              refine wq_dv 232 d277_231 rfl rfl (by decide) ?_
              rw [edv]
              refine wq_k 233 3 d277_232 (by decide) rfl ?_
              refine wq_dv 234 d277_233 rfl rfl (by decide) ?_
              rw [edm]
              refine wq_b 259 237 d277_234 rfl (by decide) rfl (fun c234 => ?_) (fun c234 => ?_)
              · -- pc 259
                refine wq_k 261 18 d277_259 (by decide) rfl ?_
                refine wq_ri d277_261 (rfl) ?_
                rw [i_lt, est] at c184
                have c184 : ¬ (0 : Int) < _ := c184
                have s0 : s = 0 := by omega
                have c204 : x9 = 1 := c204
                rw [e9 (by omega)] at c204
                rw [i_le, eat] at c196
                have c196 : (3 : Int) ≤ _ := c196
                have n15 : ¬ (true = true ∧ (s ≠ 0 ∨ t ≠ (if ar < 3 then 0 else 1))) := fun z => by
                  rcases z.2 with w | w
                  · exact w s0
                  · rw [if_neg (by omega)] at w; exact w c204
                have c234 : nI (ar % 3) = 0 := c234
                exact h18 ⟨rfl, Or.inr (Or.inl (decide_eq_true (hp_inj (b := 0) (by omega) (by decide) c234)))⟩ n15
              · -- pc 237
                refine wq_l 238 d277_237 rfl rfl rfl rfl ?_
                refine wq_gr (ci := 10) (j := 16) (q := 49) 241 d277_238 rfl rfl rfl rfl ?_
                refine wq_l 243 d277_241 rfl rfl rfl rfl ?_
                refine wq_al 244 d277_243 rfl rfl rfl (be) ?_
                rw [ke]
                refine wq_l 245 d277_244 rfl rfl rfl rfl ?_
                refine wq_gr (ci := 10) (j := 18) (q := 51) 248 d277_245 rfl rfl rfl rfl ?_
                refine wq_l 250 d277_248 rfl rfl rfl rfl ?_
                refine wq_al 251 d277_250 rfl rfl rfl (be) ?_
                rw [ve]
                refine wq_l 253 d277_251 rfl rfl rfl rfl ?_
                refine wq_vs 256 [_, _, _] d277_253 rfl rfl m280 rfl (Nat.le_of_ble_eq_true rfl) rfl (sp280 (by omega) ?_)
                refine wq_b 262 259 d277_256 rfl (by decide) rfl (fun c256 => ?_) (fun c256 => ?_)
                · -- pc 262
                  rw [i_lt, est] at c184
                  have c184 : ¬ (0 : Int) < _ := c184
                  have s0 : s = 0 := by omega
                  have c204 : x9 = 1 := c204
                  rw [e9 (by omega)] at c204
                  rw [i_le, eat] at c196
                  have c196 : (3 : Int) ≤ _ := c196
                  have n15 : ¬ (true = true ∧ (s ≠ 0 ∨ t ≠ (if ar < 3 then 0 else 1))) := fun z => by
                    rcases z.2 with w | w
                    · exact w s0
                    · rw [if_neg (by omega)] at w; exact w c204
                  have c218 : ¬ nI s = 2 := c218
                  have c234 : ¬ nI (ar % 3) = 0 := c234
                  refine hg n15 (fun z => ?_)
                  rcases z.2 with w | w | w
                  · exact c218 (by rw [w]; rfl)
                  · exact c234 (by rw [show ar % 3 = 0 from of_decide_eq_true w]; rfl)
                  · have c256 : b2 (rl_bad (rl_k l e) (rl_v l e) x9) = 0 := c256
                    rw [e9 (fun z => c218 (by rw [z]; rfl)), w] at c256
                    exact absurd c256 (by decide)
                · -- pc 259
                  refine wq_k 261 18 d277_259 (by decide) rfl ?_
                  refine wq_ri d277_261 (rfl) ?_
                  rw [i_lt, est] at c184
                  have c184 : ¬ (0 : Int) < _ := c184
                  have s0 : s = 0 := by omega
                  have c204 : x9 = 1 := c204
                  rw [e9 (by omega)] at c204
                  rw [i_le, eat] at c196
                  have c196 : (3 : Int) ≤ _ := c196
                  have n15 : ¬ (true = true ∧ (s ≠ 0 ∨ t ≠ (if ar < 3 then 0 else 1))) := fun z => by
                    rcases z.2 with w | w
                    · exact w s0
                    · rw [if_neg (by omega)] at w; exact w c204
                  have c256 : ¬ b2 (rl_bad (rl_k l e) (rl_v l e) x9) = 0 := c256
                  rw [e9 (fun z => c218 (by rw [z]; rfl))] at c256
                  exact h18 ⟨rfl, Or.inr (Or.inr (b2n c256))⟩ n15
          · -- pc 207
            refine wq_k 209 15 d277_207 (by decide) rfl ?_
            refine wq_ri d277_209 (rfl) ?_
            rw [i_lt, est] at c184
            have c184 : ¬ (0 : Int) < _ := c184
            have s0 : s = 0 := by omega
            have c204 : ¬ x9 = 1 := c204
            rw [e9 (by omega)] at c204
            rw [i_le, eat] at c196
            have c196 : (3 : Int) ≤ _ := c196
            exact h15 ⟨rfl, Or.inr (by rw [if_neg (by omega)]; exact c204)⟩
        · -- pc 199
          refine wq_k 200 0 d277_199 (by decide) rfl ?_
          refine wq_g 204 d277_200 (by decide) ?_
          refine wq_b 210 207 d277_204 rfl (by decide) rfl (fun c204 => ?_) (fun c204 => ?_)
          · -- pc 210
            refine wq_l 212 d277_210 rfl rfl rfl rfl ?_
            refine wq_b 262 215 d277_212 rfl (by decide) rfl (fun c212 => absurd c212 (by rw [i_lt, ee]; show ¬ _ < (0 : Int); omega)) (fun c212 => ?_)
            refine wq_l 217 d277_215 rfl rfl rfl rfl ?_
            refine wq_k 218 2 d277_217 (by decide) rfl ?_
            refine wq_b 259 221 d277_218 rfl (by decide) rfl (fun c218 => ?_) (fun c218 => ?_)
            · -- pc 259
              refine wq_k 261 18 d277_259 (by decide) rfl ?_
              refine wq_ri d277_261 (rfl) ?_
              rw [i_lt, est] at c184
              have c184 : ¬ (0 : Int) < _ := c184
              have s0 : s = 0 := by omega
              have c204 : x9 = 0 := c204
              rw [e9 (by omega)] at c204
              rw [i_le, eat] at c196
              have c196 : ¬ (3 : Int) ≤ _ := c196
              have n15 : ¬ (true = true ∧ (s ≠ 0 ∨ t ≠ (if ar < 3 then 0 else 1))) := fun z => by
                rcases z.2 with w | w
                · exact w s0
                · rw [if_pos (by omega)] at w; exact w c204
              have c218 : nI s = 2 := c218
              exact h18 ⟨rfl, Or.inl (hp_inj (b := 2) (by omega) (by decide) c218)⟩ n15
            · -- pc 221
              refine wq_l 223 d277_221 rfl rfl rfl rfl ?_
              refine wq_b 237 226 d277_223 rfl (by decide) rfl (fun c223 => absurd c223 (by rw [i_lt, e0]; show ¬ _ < (0 : Int); omega)) (fun c223 => ?_)
              refine wq_l 228 d277_226 rfl rfl rfl rfl ?_
              refine wq_k 231 256 d277_228 (by decide) rfl ?_
              refine wq_dv 232 d277_231 rfl rfl (by decide) ?_
              rw [edv]
              refine wq_k 233 3 d277_232 (by decide) rfl ?_
              refine wq_dv 234 d277_233 rfl rfl (by decide) ?_
              rw [edm]
              refine wq_b 259 237 d277_234 rfl (by decide) rfl (fun c234 => ?_) (fun c234 => ?_)
              · -- pc 259
                refine wq_k 261 18 d277_259 (by decide) rfl ?_
                refine wq_ri d277_261 (rfl) ?_
                rw [i_lt, est] at c184
                have c184 : ¬ (0 : Int) < _ := c184
                have s0 : s = 0 := by omega
                have c204 : x9 = 0 := c204
                rw [e9 (by omega)] at c204
                rw [i_le, eat] at c196
                have c196 : ¬ (3 : Int) ≤ _ := c196
                have n15 : ¬ (true = true ∧ (s ≠ 0 ∨ t ≠ (if ar < 3 then 0 else 1))) := fun z => by
                  rcases z.2 with w | w
                  · exact w s0
                  · rw [if_pos (by omega)] at w; exact w c204
                have c234 : nI (ar % 3) = 0 := c234
                exact h18 ⟨rfl, Or.inr (Or.inl (decide_eq_true (hp_inj (b := 0) (by omega) (by decide) c234)))⟩ n15
              · -- pc 237
                refine wq_l 238 d277_237 rfl rfl rfl rfl ?_
                refine wq_gr (ci := 10) (j := 16) (q := 49) 241 d277_238 rfl rfl rfl rfl ?_
                refine wq_l 243 d277_241 rfl rfl rfl rfl ?_
                refine wq_al 244 d277_243 rfl rfl rfl (be) ?_
                rw [ke]
                refine wq_l 245 d277_244 rfl rfl rfl rfl ?_
                refine wq_gr (ci := 10) (j := 18) (q := 51) 248 d277_245 rfl rfl rfl rfl ?_
                refine wq_l 250 d277_248 rfl rfl rfl rfl ?_
                refine wq_al 251 d277_250 rfl rfl rfl (be) ?_
                rw [ve]
                refine wq_l 253 d277_251 rfl rfl rfl rfl ?_
                refine wq_vs 256 [_, _, _] d277_253 rfl rfl m280 rfl (Nat.le_of_ble_eq_true rfl) rfl (sp280 (by omega) ?_)
                refine wq_b 262 259 d277_256 rfl (by decide) rfl (fun c256 => ?_) (fun c256 => ?_)
                · -- pc 262
                  rw [i_lt, est] at c184
                  have c184 : ¬ (0 : Int) < _ := c184
                  have s0 : s = 0 := by omega
                  have c204 : x9 = 0 := c204
                  rw [e9 (by omega)] at c204
                  rw [i_le, eat] at c196
                  have c196 : ¬ (3 : Int) ≤ _ := c196
                  have n15 : ¬ (true = true ∧ (s ≠ 0 ∨ t ≠ (if ar < 3 then 0 else 1))) := fun z => by
                    rcases z.2 with w | w
                    · exact w s0
                    · rw [if_pos (by omega)] at w; exact w c204
                  have c218 : ¬ nI s = 2 := c218
                  have c234 : ¬ nI (ar % 3) = 0 := c234
                  refine hg n15 (fun z => ?_)
                  rcases z.2 with w | w | w
                  · exact c218 (by rw [w]; rfl)
                  · exact c234 (by rw [show ar % 3 = 0 from of_decide_eq_true w]; rfl)
                  · have c256 : b2 (rl_bad (rl_k l e) (rl_v l e) x9) = 0 := c256
                    rw [e9 (fun z => c218 (by rw [z]; rfl)), w] at c256
                    exact absurd c256 (by decide)
                · -- pc 259
                  refine wq_k 261 18 d277_259 (by decide) rfl ?_
                  refine wq_ri d277_261 (rfl) ?_
                  rw [i_lt, est] at c184
                  have c184 : ¬ (0 : Int) < _ := c184
                  have s0 : s = 0 := by omega
                  have c204 : x9 = 0 := c204
                  rw [e9 (by omega)] at c204
                  rw [i_le, eat] at c196
                  have c196 : ¬ (3 : Int) ≤ _ := c196
                  have n15 : ¬ (true = true ∧ (s ≠ 0 ∨ t ≠ (if ar < 3 then 0 else 1))) := fun z => by
                    rcases z.2 with w | w
                    · exact w s0
                    · rw [if_pos (by omega)] at w; exact w c204
                  have c256 : ¬ b2 (rl_bad (rl_k l e) (rl_v l e) x9) = 0 := c256
                  rw [e9 (fun z => c218 (by rw [z]; rfl))] at c256
                  exact h18 ⟨rfl, Or.inr (Or.inr (b2n c256))⟩ n15
          · -- pc 207
            refine wq_k 209 15 d277_207 (by decide) rfl ?_
            refine wq_ri d277_209 (rfl) ?_
            rw [i_lt, est] at c184
            have c184 : ¬ (0 : Int) < _ := c184
            have s0 : s = 0 := by omega
            have c204 : ¬ x9 = 0 := c204
            rw [e9 (by omega)] at c204
            rw [i_le, eat] at c196
            have c196 : ¬ (3 : Int) ≤ _ := c196
            exact h15 ⟨rfl, Or.inr (by rw [if_pos (by omega)]; exact c204)⟩
