/-! A BLOCK ends in the reference: the whole of leaveBlock -/
theorem rl_lz {l : List pg_N} {e : Nat} (he : e ≤ l.length) : ∀ (n s : Nat), e - s ≤ n → rl_cl l s e → s < e → ∀ c, (rl_row l s e).getLast? = some c → c + rl_z l c = e := by
  intro n
  induction n with
  | zero => intro s hn hc hs; omega
  | succ n ih =>
    intro s hn hc hs c hl
    obtain ⟨c1, c2, c3⟩ := rl_clz hc hs
    rw [rl_rowu he hc hs] at hl
    by_cases q : s + rl_z l s < e
    · rw [rl_rowu he c3 q, List.getLast?_cons_cons, ← rl_rowu he c3 q] at hl
      exact ih (s + rl_z l s) (by omega) c3 q c hl
    · rw [rl_row0 q] at hl
      have hl : some s = some c := hl
      cases hl
      omega
theorem lg_bl {l : List pg_N} {NN i : Nat} (hG : lg_G l NN) (hi : i < l.length) (hk : 1 ≤ rl_k l i ∧ rl_k l i ≤ 3) : ∃ jl, (rl_c l i).getLast? = some jl ∧ jl ∈ rl_c l i ∧ (rl_k l jl = 11 ∨ rl_k l jl = 22) ∧ jl + rl_z l jl = i + rl_z l i ∧ ∀ c ∈ rl_c l i, c = jl ∨ rl_k l c = 4 ∨ rl_k l c = 8 := by
  obtain ⟨z1, z2, z3⟩ := lg_cl hG hi
  have h := lg_S hG hi
  have h : ∃ w b, (rl_c l i).map (rl_k l) = w ++ [b] ∧ (∀ x ∈ w, x = 4 ∨ x = 8) ∧ sh_b b := by
    rcases (show rl_k l i = 1 ∨ rl_k l i = 2 ∨ rl_k l i = 3 by omega) with q | q | q
    · rw [q] at h
      obtain ⟨u, b, e, h1, h2⟩ : ∃ u b, (rl_c l i).map (rl_k l) = 8 :: (u ++ [b]) ∧ (∀ x ∈ u, x = 4) ∧ sh_b b := h
      exact ⟨8 :: u, b, e, fun x hx => (List.mem_cons.mp hx).elim Or.inr (fun w => Or.inl (h1 x w)), h2⟩
    · rw [q] at h
      obtain ⟨u, b, e, h1, h2⟩ : ∃ u b, (rl_c l i).map (rl_k l) = u ++ [b] ∧ (∀ x ∈ u, x = 4) ∧ sh_b b := h
      exact ⟨u, b, e, fun x hx => Or.inl (h1 x hx), h2⟩
    · rw [q] at h
      obtain ⟨u, b, e, h1, h2⟩ : ∃ u b, (rl_c l i).map (rl_k l) = u ++ [b] ∧ (∀ x ∈ u, x = 4) ∧ sh_b b := h
      exact ⟨u, b, e, fun x hx => Or.inl (h1 x hx), h2⟩
  obtain ⟨w, b, e, h1, h2⟩ := h
  obtain ⟨L1, L2, e1, e2, e3⟩ := List.map_eq_append_iff.mp e
  obtain ⟨jl, L3, e4, e5, e6⟩ := List.map_eq_cons_iff.mp e3
  have e7 := List.map_eq_nil_iff.mp e6
  subst e7 e4
  have hl : (rl_c l i).getLast? = some jl := by rw [e1, List.getLast?_concat]
  have hm : jl ∈ rl_c l i := by rw [e1]; simp
  have cm := rl_cm hm
  refine ⟨jl, hl, hm, by rcases h2 with q | q <;> omega, ?_, fun c hc => ?_⟩
  · rw [rl_crow] at hl
    exact rl_lz z1 _ (i + 1) (Nat.le_refl _) z3 (by omega) jl hl
  · rw [e1] at hc
    rcases List.mem_append.mp hc with q | q
    · exact Or.inr (h1 _ (by rw [← e2]; exact List.mem_map_of_mem q))
    · exact Or.inl (List.mem_singleton.mp q)
theorem re274 {d : Nat} {l : List pg_N} {a : Nat → Nat} {R : Int32 → Int32 → Prop} {σ0 σ : pm_S} {Q : Option Value → pm_S → Prop} {NN u u' i jl : Nat} {y : rl_B} {r : List rl_B} {T : (Nat → Int32) × (Nat → Int32) × (Nat → Int32)} (hG : lg_G l NN) (h : rr_I l a R σ0 σ true u (y :: r, T)) (hy : y.2.2.1 = i) (i0 : i < l.length) (hk : 1 ≤ rl_k l i ∧ rl_k l i ≤ 3) (hp : pv_B (y :: r)) (hjl : (rl_c l i).getLast? = some jl) (hjm : jl ∈ rl_c l i) (hc0 : ∀ c, i < c → c < i + rl_z l i → (rl_k l c = 16 → T.2.1 c = nI (u + cn (sp_0 l) (i + 1) (c - i - 1))) ∧ (rl_k l c = 19 → T.2.2 c = nI (u + cn (sp_0 l) (i + 1) (c - i - 1)))) (hc1 : ∀ c, i < c → c < i + rl_z l i → rl_k l c = 25 → 2 ≤ (rl_v l c).toInt → T.2.1 c = nI (u + cn (sp_0 l) (i + 1) (rl_z l i - 1) + cn (sp_1 l) (i + 1) (c - i - 1))) (hcell : y.2.2.2.1 = u + cn (sp_0 l) (i + 1) (rl_z l i - 1) + cn (sp_1 l) (i + 1) (rl_z l i - 1) + (if rl_k l jl = 22 then 156 else 0)) (hQ : ∀ σ', rr_F σ0 σ' → ((if rl_k l i = 1 ∧ 8 < rl_nin y then 44 else 0) = 0 → rr_I l a R σ0 σ' false u' (y :: r, T)) → Q (some (.int (nI (if rl_k l i = 1 ∧ 8 < rl_nin y then 44 else 0)))) σ') : pm_call pm_Y0 (d + 2) 274 [.ref 10, .int (nI (a i))] σ Q := by
  have zi := rl_zc hG.1 i0
  have cm := rl_cm hjm
  have hB9 : (y :: r).length ≤ 409 := h.2.2.2.2.1.1
  rw [List.length_cons] at hB9
  have e35 : σ.1 10 35 = nI (r.length + 1) := h.2.2.2.2.1.2.1
  have es : nI (r.length + 1) - 1 = nI r.length := (nI_sbl (b := 1) (by omega)).trans (congrArg nI (by omega))
  have eb := nI_toInt (n := r.length) (by omega)
  have ebc := nI_clamp (n := r.length) (by omega)
  have bi := rt_b (rr_T h) i0
  have bjl := rt_b (rr_T h) (show jl < l.length by omega)
  have kjl := rt_k (rr_T h) (show jl < l.length by omega)
  have el := rt_l (rr_T h) i0 hjl
  have kjm := (lg_V hG (show jl < l.length by omega)).1
  have hin : ∀ c, i < c → c < i + rl_z l i → rr_in l (y :: r) c := fun c c1 c2 => ⟨by show y.2.2.1 ≤ c; omega, by show c < y.2.2.1 + rl_z l y.2.2.1; rw [hy]; exact c2⟩
  have hv : ∀ v ∈ y.2.2.2.2, v.2.2.2.1 < 2 ^ 20 := fun v v1 => by have := (hp.1.2.2.2.2.1 v v1).2.1; omega
  have nl : rl_nin y ≤ 4096 := by
    have h1 : rl_nin y ≤ y.2.2.2.2.length := List.length_filter_le _ _
    have h2 : (rv_L r ++ y.2.2.2.2.reverse).length ≤ 4096 := h.2.2.2.2.2.1.1
    rw [List.length_append, List.length_reverse] at h2
    omega
  have en := nI_toInt (n := rl_nin y) (by omega)
  have go : ∀ (kx : Nat) (w6 : Value) (σ : pm_S), y.2.2.2.1 = u + cn (sp_0 l) (i + 1) (rl_z l i - 1) + cn (sp_1 l) (i + 1) (rl_z l i - 1) + kx → rr_I l a R σ0 σ true (u + cn (sp_0 l) (i + 1) (rl_z l i - 1) + cn (sp_1 l) (i + 1) (rl_z l i - 1)) (y :: r, T) → rz_0 l a (y :: r, T) i (i + rl_z l i) σ → rz_1 l a (y :: r, T) i (i + rl_z l i) σ → pm_WP pm_Y0 (pm_call pm_Y0 (d + 1)) 10 prog_14_method_114_code (some FieldType.int) Q 204 [.ref 10, .int (nI (a i)), .int (nI r.length), .int (nI kx), .int (nI 2), .int (-1), w6] [] σ := by
    intro kx w6 σ ek h g0 g1
    have e48 := h.2.2.2.2.2.2 rfl
    have hf := rr_fin (u' := u') h hy hk g0 g1
    have bi := rt_b (rr_T h) i0
    have ki := rt_k (rr_T hf) i0
    refine wq_l 205 d274_204 rfl rfl rfl rfl ?_
    refine wq_gr (ci := 10) (j := 39) (q := 67) 208 d274_205 rfl rfl rfl rfl ?_
    refine wq_l 209 d274_208 rfl rfl rfl rfl ?_
    refine wq_l 210 d274_209 rfl rfl rfl rfl ?_
    refine wq_gf (ci := 10) (j := 48) (f := 0) (v := .int (nI (u + cn (sp_0 l) (i + 1) (rl_z l i - 1) + cn (sp_1 l) (i + 1) (rl_z l i - 1)))) 213 d274_210 rfl rfl rfl (congrArg Value.int (e48)) rfl ?_
    refine wq_l 214 d274_213 rfl rfl rfl rfl ?_
    refine wq_a 215 d274_214 rfl rfl ?_
    refine wq_as 216 d274_215 rfl rfl rfl (vp_in_iff.mpr (by rw [eb]; omega)) ?_
    rw [ebc, nI_ad, ← ek, pm_nr0]
    generalize pm_pr σ 67 (upd (σ.2.2 67) r.length (nI y.2.2.2.1)) = τ at *
    refine wq_l 217 d274_216 rfl rfl rfl rfl ?_
    refine wq_gr (ci := 10) (j := 16) (q := 49) 220 d274_217 rfl rfl rfl rfl ?_
    refine wq_l 221 d274_220 rfl rfl rfl rfl ?_
    refine wq_al 222 d274_221 rfl rfl rfl (bi) ?_
    rw [ki]
    refine wq_k 223 1 d274_222 (by decide) rfl ?_
    refine wq_b 241 226 d274_223 rfl (by decide) rfl (fun c223 => ?_) (fun c223 => ?_)
    · -- pc 241
      refine wq_k 242 0 d274_241 (by decide) rfl ?_
      refine wq_ri d274_242 (rfl) ?_
      rw [if_neg (fun z => c223 (by rw [z.1]; rfl))] at hQ
      exact hQ τ hf.2.2.1 (fun _ => hf)
    · -- pc 226
      refine wq_l 227 d274_226 rfl rfl rfl rfl ?_
      refine wq_l 228 d274_227 rfl rfl rfl rfl ?_
      refine wq_v 231 [_] d274_228 rfl rfl m276 rfl rfl (Nat.le_of_ble_eq_true rfl) rfl (re276 hf (by rw [rl_blkc, if_pos rfl]) hv ?_)
      refine wq_k 233 8 d274_231 (by decide) rfl ?_
      refine wq_b 241 236 d274_233 rfl (by decide) rfl (fun c233 => ?_) (fun c233 => ?_)
      · -- pc 241
        refine wq_k 242 0 d274_241 (by decide) rfl ?_
        refine wq_ri d274_242 (rfl) ?_
        have k1 : rl_k l i = 1 := hp_inj (b := 1) (by omega) (by decide) (Classical.not_not.mp c223)
        rw [i_le, en] at c233
        have c233 : _ ≤ (8 : Int) := c233
        rw [if_neg (fun z => by omega)] at hQ
        exact hQ τ hf.2.2.1 (fun _ => hf)
      · -- pc 236
        refine wq_k 238 44 d274_236 (by decide) rfl ?_
        refine wq_g 242 d274_238 (by decide) ?_
        refine wq_ri d274_242 (rfl) ?_
        have k1 : rl_k l i = 1 := hp_inj (b := 1) (by omega) (by decide) (Classical.not_not.mp c223)
        rw [i_le, en] at c233
        have c233 : ¬ _ ≤ (8 : Int) := c233
        rw [if_pos ⟨k1, by omega⟩] at hQ
        exact hQ τ hf.2.2.1 (fun z => absurd z (by decide))
  have go2 : ∀ (kx : Nat), y.2.2.2.1 = u + cn (sp_0 l) (i + 1) (rl_z l i - 1) + cn (sp_1 l) (i + 1) (rl_z l i - 1) + kx → pm_WP pm_Y0 (pm_call pm_Y0 (d + 1)) 10 prog_14_method_114_code (some FieldType.int) Q 34 [.ref 10, .int (nI (a i)), .int (nI r.length), .int (nI kx), .int (nI 0), pm_jk, pm_jk] [] σ := by
    intro kx ek
    have ef := rt_f (rr_T h) hG i0
    refine wq_l 36 d274_34 rfl rfl rfl rfl ?_
    refine wq_k 37 2 d274_36 (by decide) rfl ?_
    refine wq_b 204 40 d274_37 rfl (by decide) rfl (fun c37 => absurd c37 (by decide)) (fun c37 => ?_)
    refine wq_l 41 d274_40 rfl rfl rfl rfl ?_
    refine wq_gr (ci := 10) (j := 19) (q := 52) 44 d274_41 rfl rfl rfl rfl ?_
    refine wq_l 45 d274_44 rfl rfl rfl rfl ?_
    refine wq_al 46 d274_45 rfl rfl rfl (bi) ?_
    rw [ef]
    refine wq_s 48 d274_46 rfl rfl (Nat.le_of_ble_eq_true rfl) rfl rfl ?_
    refine re274r0 hG i0 hin hc0 (fun σ1 w6 h1 g0 => ?_) (rl_z l i - 1) (i + 1) σ _ (by omega) (by omega) (by rw [show i + 1 - i - 1 = 0 by omega]; exact h) (fun c c1 c2 => by omega)
    have bi1 := rt_b (rr_T h1) i0
    have ef1 := rt_f (rr_T h1) hG i0
    refine wq_l 36 d274_34 rfl rfl rfl rfl ?_
    refine wq_k 37 2 d274_36 (by decide) rfl ?_
    refine wq_b 204 40 d274_37 rfl (by decide) rfl (fun c37 => absurd c37 (by decide)) (fun c37 => ?_)
    refine wq_l 41 d274_40 rfl rfl rfl rfl ?_
    refine wq_gr (ci := 10) (j := 19) (q := 52) 44 d274_41 rfl rfl rfl rfl ?_
    refine wq_l 45 d274_44 rfl rfl rfl rfl ?_
    refine wq_al 46 d274_45 rfl rfl rfl (bi1) ?_
    rw [ef1]
    refine wq_s 48 d274_46 rfl rfl (Nat.le_of_ble_eq_true rfl) rfl rfl ?_
    refine re274r1 (u := u + cn (sp_0 l) (i + 1) (rl_z l i - 1)) hG i0 hin hc1 (fun σ2 w6 h2 g0 g1 => ?_) (rl_z l i - 1) (i + 1) σ1 _ (by omega) (by omega) (by rw [show i + 1 - i - 1 = 0 by omega]; exact h1) g0 (fun c c1 c2 => by omega)
    refine wq_l 36 d274_34 rfl rfl rfl rfl ?_
    refine wq_k 37 2 d274_36 (by decide) rfl ?_
    refine wq_b 204 40 d274_37 rfl (by decide) rfl (fun c37 => ?_) (fun c37 => absurd (by decide) c37)
    exact go kx w6 σ2 ek h2 g0 g1
  refine wq_m m274 (Nat.le_of_ble_eq_true rfl) (by decide) rfl ?_
  refine wq_l 1 d274_0 rfl rfl rfl rfl ?_
  refine wq_gf (ci := 10) (j := 35) (f := 0) (v := .int (nI (r.length + 1))) 4 d274_1 rfl rfl rfl (congrArg Value.int (e35)) rfl ?_
  refine wq_k 5 1 d274_4 (by decide) rfl ?_
  refine wq_a 6 d274_5 rfl rfl ?_
  rw [es]
  refine wq_s 7 d274_6 rfl rfl (Nat.le_of_ble_eq_true rfl) rfl rfl ?_
  refine wq_l 8 d274_7 rfl rfl rfl rfl ?_
  refine wq_gr (ci := 10) (j := 16) (q := 49) 11 d274_8 rfl rfl rfl rfl ?_
  refine wq_l 12 d274_11 rfl rfl rfl rfl ?_
  refine wq_gr (ci := 10) (j := 20) (q := 53) 15 d274_12 rfl rfl rfl rfl ?_
  refine wq_l 16 d274_15 rfl rfl rfl rfl ?_
  refine wq_al 17 d274_16 rfl rfl rfl (bi) ?_
  rw [el]
  refine wq_al 18 d274_17 rfl rfl rfl (bjl) ?_
  rw [kjl]
  refine wq_k 20 22 d274_18 (by decide) rfl ?_
  refine wq_b 29 23 d274_20 rfl (by decide) rfl (fun c20 => ?_) (fun c20 => ?_)
  · -- pc 29
    refine wq_k 30 0 d274_29 (by decide) rfl ?_
    refine wq_s 31 d274_30 rfl rfl (Nat.le_of_ble_eq_true rfl) rfl rfl ?_
    refine wq_k 32 0 d274_31 (by decide) rfl ?_
    refine wq_s 34 d274_32 rfl rfl (Nat.le_of_ble_eq_true rfl) rfl rfl ?_
    exact go2 0 (by rw [hcell, if_neg (fun z => c20 (by rw [z]; rfl))])
  · -- pc 23
    refine wq_k 26 156 d274_23 (by decide) rfl ?_
    refine wq_g 30 d274_26 (by decide) ?_
    refine wq_s 31 d274_30 rfl rfl (Nat.le_of_ble_eq_true rfl) rfl rfl ?_
    refine wq_k 32 0 d274_31 (by decide) rfl ?_
    refine wq_s 34 d274_32 rfl rfl (Nat.le_of_ble_eq_true rfl) rfl rfl ?_
    exact go2 156 (by rw [hcell, if_pos (hp_inj (b := 22) (by omega) (by decide) (Classical.not_not.mp c20))])
