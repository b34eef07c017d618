/-! A DECLARATION in the reference: how many cells each of its variables has -/
theorem lg_9c {l : List pg_N} {NN i : Nat} (hG : lg_G l NN) (hi : i < l.length) (hk : rl_k l i = 9) : i + 3 < i + rl_z l i ∧ rl_c l i = [i + 1, i + 2, i + 3] ∧ (rl_k l (i + 1) = 30 ∨ rl_k l (i + 1) = 31) ∧ (rl_k l (i + 2) = 30 ∨ rl_k l (i + 2) = 31) ∧ rl_k l (i + 3) = 8 := by
  obtain ⟨z1, z2, z3⟩ := lg_cl hG hi
  obtain ⟨g1, g2⟩ := lg_9 hG hi hk
  have h := lg_S hG hi
  rw [hk] at h
  obtain ⟨b1, b2, e, h1, h2⟩ : ∃ a b, (rl_c l i).map (rl_k l) = [a, b, 8] ∧ sh_K a ∧ sh_K b := h
  have lf : ∀ j, j < l.length → (rl_k l j = 30 ∨ rl_k l j = 31 ∨ rl_k l j = 8) → rl_z l j = 1 := fun j hj q => (lg_0 hG hj (by
    have := lg_S hG hj
    rcases q with q | q | q <;> (rw [q] at this; exact this))).1
  rw [rl_crow] at e ⊢
  obtain ⟨a1, a2, a3, a4, a5, a6, a7⟩ := rl_rwc z1 z3 e
  have y1 := lf (i + 1) (by omega) (by rcases h1 with w | w <;> omega)
  rw [y1] at a3 a4 a5 a7
  obtain ⟨c1, c2, c3, c4, c5, c6, c7⟩ := rl_rwc z1 a7 a4
  have y2 := lf (i + 1 + 1) (by omega) (by rcases h2 with w | w <;> omega)
  rw [y2] at c3 c4 c5 c7
  obtain ⟨e1, e2, e3, e4, e5, e6, e7⟩ := rl_rwc z1 c7 c4
  have y3 := lf (i + 1 + 1 + 1) (by omega) (by omega)
  rw [y3] at e3 e4 e5 e7
  refine ⟨by omega, ?_, by rcases h1 with w | w <;> omega, by exact h2.elim (fun w => Or.inl (by rw [← w]; exact c2)) (fun w => Or.inr (by rw [← w]; exact c2)), e2⟩
  rw [a3, c3, e3, List.map_eq_nil_iff.mp e4]
theorem re277z {d : Nat} {l : List pg_N} {a : Nat → Nat} {R : Int32 → Int32 → Prop} {σ0 σ : pm_S} {Q : Option Value → pm_S → Prop} {NN i m yt part s : Nat} {hp cs : Bool} {c at_ x6 x9 : Int32} {y : rl_B} {r : List rl_B} {T : (Nat → Int32) × (Nat → Int32) × (Nat → Int32)} {w10 w11 : Value} (hG : lg_G l NN) (h : rr_I l a R σ0 σ true y.2.2.2.1 (y :: r, T)) (D : lg_D l i m hp yt cs) (i0 : i < l.length) (hm : m ≤ y.2.2.2.2.length) (hus : ∀ (k : Nat) (v : rl_V), k < m → y.2.2.2.2[k]? = some v → v.2.2.2.1 = part) (h9 : rl_k l yt = 9 → 1 ≤ rl_many l yt ∧ rl_many l yt ≤ 256) (h10 : rl_k l yt = 10 → (rl_inst (y :: r) (rl_v l yt)).isSome = true) (hz : y.2.2.2.1 + m * rl_zz l (y :: r) yt < 2 ^ 28) (hat : at_ = -1 ∨ ∃ ar o, ar < 6 ∧ o < 256 ∧ at_ = nI (256 * ar + o)) (es : s = rl_k l yt - 8) (e9 : x9 = rv_ty s (rl_dt l (y :: r, T) yt)) (hQ : ∀ σ', rr_I l a R σ0 σ' true (rl_uj at_ y.2.2.2.1 (rl_zz l (y :: r) yt) m) (rl_Aj s (rl_dt l (y :: r, T) yt) at_ (rl_zz l (y :: r) yt) m i m y r T) → Q (some (.int (nI (if 4096 < rl_uj at_ y.2.2.2.1 (rl_zz l (y :: r) yt) m then 19 else 0)))) σ') : pm_WP pm_Y0 (pm_call pm_Y0 (d + 2)) 10 prog_14_method_91_code (some FieldType.int) Q 262 [.ref 10, .int (nI (a i)), .int (nI m), .int c, .int at_, .int (nI (a yt)), .int x6, .int (nI part), .int (nI s), .int x9, w10, w11] [] σ := by
  obtain ⟨d1, d2, d3, d4, d5, d6, d7, d8, d9⟩ := D
  have zi := (rl_zc hG.1 i0).2
  have z6 : ∀ j, j < l.length → rl_k l j = 6 → rl_z l j = 1 := fun j hj q => (lg_0 hG hj (by
    have := lg_S hG hj
    rw [q] at this; exact this)).1
  have hyc : yt ∈ rl_c l i := by rw [d9]; simp
  have cm : i < yt ∧ yt < i + rl_z l i := rl_cm hyc
  have hyi : i + m < yt := by rw [d4]; cases hp <;> simp <;> omega
  have hc : ∀ j, j < m → i + 1 + j ∈ rl_c l i ∧ rl_z l (i + 1 + j) = 1 := fun j hj => ⟨by
    rw [d9]
    exact List.mem_append_left _ (List.mem_range'_1.mpr ⟨by omega, by omega⟩), z6 _ (by omega) (d2 _ (by omega) (by omega))⟩
  have ef := (rt_f (rr_T h) hG i0).trans (if_pos (by omega))
  have bi := rt_b (rr_T h) i0
  have by' := rt_b (rr_T h) d6
  have e41 : σ.1 10 41 = nI ((rv_L r).length + y.2.2.2.2.length) := by
    have e := h.2.2.2.2.2.1.2.1
    have e : σ.1 10 41 = nI (rv_L r ++ y.2.2.2.2.reverse).length := e
    rw [e, List.length_append, List.length_reverse]
  have esb : nI ((rv_L r).length + y.2.2.2.2.length) - nI m = nI ((rv_L r).length + (y.2.2.2.2.length - (m - 0))) := by
    rw [nI_sbl (by omega)]
    exact congrArg nI (by omega)
  have go : ∀ x : Int32, x = nI (rl_zz l (y :: r) yt) → pm_WP pm_Y0 (pm_call pm_Y0 (d + 2)) 10 prog_14_method_91_code (some FieldType.int) Q 346 [.ref 10, .int (nI (a i)), .int (nI m), .int c, .int at_, .int (nI (a yt)), .int x6, .int (nI part), .int (nI s), .int x9, .int x, w11] [] σ := by
    intro x ex
    rw [ex, e9]
    refine wq_l 347 d277_346 rfl rfl rfl rfl ?_
    refine wq_gr (ci := 10) (j := 19) (q := 52) 350 d277_347 rfl rfl rfl rfl ?_
    refine wq_l 351 d277_350 rfl rfl rfl rfl ?_
    refine wq_al 352 d277_351 rfl rfl rfl (bi) ?_
    rw [ef]
    refine wq_s 353 d277_352 rfl rfl (Nat.le_of_ble_eq_true rfl) rfl rfl ?_
    refine wq_l 354 d277_353 rfl rfl rfl rfl ?_
    refine wq_gf (ci := 10) (j := 41) (f := 0) (v := .int (nI ((rv_L r).length + y.2.2.2.2.length))) 357 d277_354 rfl rfl rfl (congrArg Value.int (e41)) rfl ?_
    refine wq_l 358 d277_357 rfl rfl rfl rfl ?_
    refine wq_a 359 d277_358 rfl rfl ?_
    rw [esb]
    refine wq_s 361 d277_359 rfl rfl (Nat.le_of_ble_eq_true rfl) rfl rfl ?_
    refine re277l hG i0 hm (by rw [es]; omega) hc (fun j hj => by omega) hus hat hz hQ m 0 σ _ (Nat.zero_add _) (fun _ => rfl) ?_
    rw [rl_Aj0]
    have : rl_uj at_ y.2.2.2.1 (rl_zz l (y :: r) yt) 0 = y.2.2.2.1 := by
      unfold rl_uj
      rw [Nat.zero_mul, Nat.add_zero, ite_self]
    rw [this]
    exact h
  rcases d5 with k8 | k9 | k10
  · obtain rfl : s = 0 := by omega
    refine wq_l 264 d277_262 rfl rfl rfl rfl ?_
    refine wq_b 271 267 d277_264 rfl (by decide) rfl (fun c264 => absurd c264 (fun z => z rfl)) (fun c264 => ?_)
    refine wq_k 268 1 d277_267 (by decide) rfl ?_
    refine wq_g 344 d277_268 (by decide) ?_
    refine wq_s 346 d277_344 rfl rfl (Nat.le_of_ble_eq_true rfl) rfl rfl ?_
    exact go _ (by unfold rl_zz; rw [if_pos k8]; rfl)
  · obtain ⟨q1, q2, q3, q4, q5⟩ := lg_9c hG d6 k9
    obtain ⟨m1, m2⟩ := h9 k9
    have yz := (rl_zc hG.1 d6).2
    have f1 := (rt_f (rr_T h) hG d6).trans (if_pos (by omega))
    have z1 : rl_z l (yt + 1) = 1 := (lg_0 hG (show yt + 1 < l.length by omega) (by
      have := lg_S hG (show yt + 1 < l.length by omega)
      rcases q3 with q | q <;> (rw [q] at this; exact this))).1
    have n1 := rt_n (rr_T h) hG d6 (show yt + 1 ∈ rl_c l yt by rw [q2]; simp)
    rw [z1] at n1
    have n1 := n1.trans (if_pos (by omega))
    have b1 := rt_b (rr_T h) (show yt + 1 < l.length by omega)
    have b2 := rt_b (rr_T h) (show yt + 1 + 1 < l.length by omega)
    have v1 := rt_v (rr_T h) (show yt + 1 < l.length by omega) (by rcases q3 with q | q <;> rw [q] <;> rfl)
    have v2 := rt_v (rr_T h) (show yt + 1 + 1 < l.length by omega) (by rcases q4 with q | q <;> rw [show yt + 1 + 1 = yt + 2 from rfl, q] <;> rfl)
    obtain rfl : s = 1 := by omega
    refine wq_l 264 d277_262 rfl rfl rfl rfl ?_
    refine wq_b 271 267 d277_264 rfl (by decide) rfl (fun c264 => ?_) (fun c264 => absurd (by decide) c264)
    refine wq_l 273 d277_271 rfl rfl rfl rfl ?_
    refine wq_k 274 1 d277_273 (by decide) rfl ?_
    refine wq_b 312 277 d277_274 rfl (by decide) rfl (fun c274 => absurd c274 (fun z => z rfl)) (fun c274 => ?_)
    refine wq_l 278 d277_277 rfl rfl rfl rfl ?_
    refine wq_gr (ci := 10) (j := 18) (q := 51) 281 d277_278 rfl rfl rfl rfl ?_
    refine wq_l 282 d277_281 rfl rfl rfl rfl ?_
    refine wq_gr (ci := 10) (j := 21) (q := 54) 285 d277_282 rfl rfl rfl rfl ?_
    refine wq_l 286 d277_285 rfl rfl rfl rfl ?_
    refine wq_gr (ci := 10) (j := 19) (q := 52) 289 d277_286 rfl rfl rfl rfl ?_
    refine wq_l 291 d277_289 rfl rfl rfl rfl ?_
    refine wq_al 292 d277_291 rfl rfl rfl (by') ?_
    rw [f1]
    refine wq_al 293 d277_292 rfl rfl rfl (b1) ?_
    rw [n1]
    refine wq_al 294 d277_293 rfl rfl rfl (b2) ?_
    refine wq_l 295 d277_294 rfl rfl rfl rfl ?_
    refine wq_gr (ci := 10) (j := 18) (q := 51) 298 d277_295 rfl rfl rfl rfl ?_
    refine wq_l 299 d277_298 rfl rfl rfl rfl ?_
    refine wq_gr (ci := 10) (j := 19) (q := 52) 302 d277_299 rfl rfl rfl rfl ?_
    refine wq_l 304 d277_302 rfl rfl rfl rfl ?_
    refine wq_al 305 d277_304 rfl rfl rfl (by') ?_
    rw [f1]
    refine wq_al 306 d277_305 rfl rfl rfl (b1) ?_
    rw [v2, v1]
    refine wq_a 307 d277_306 rfl rfl ?_
    refine wq_k 308 1 d277_307 (by decide) rfl ?_
    refine wq_a 309 d277_308 rfl rfl ?_
    refine wq_g 344 d277_309 (by decide) ?_
    refine wq_s 346 d277_344 rfl rfl (Nat.le_of_ble_eq_true rfl) rfl rfl ?_
    refine go _ ?_
    unfold rl_zz
    rw [if_neg (by omega), if_pos k9]
    unfold rl_many at m1 m2 ⊢
    refine Int32.toInt_inj.mp ?_
    rw [nI_toInt (by omega), Int32.toInt_add, Int32.toInt_sub]
    rw [show rl_v l (yt + 1 + 1) = rl_v l (yt + 2) from rfl]
    show ((_ : Int).bmod _ + 1).bmod _ = _
    rw [show ((rl_v l (yt + 2)).toInt - (rl_v l (yt + 1)).toInt).bmod (2 ^ 32) = (rl_v l (yt + 2)).toInt - (rl_v l (yt + 1)).toInt from Int.bmod_eq_of_le (by omega) (by omega)]
    rw [Int.bmod_eq_of_le (by omega) (by omega)]
    omega
  · obtain ⟨q, hq⟩ := Option.isSome_iff_exists.mp (h10 k10)
    have edt : rl_dt l (y :: r, T) yt = nI q := by
      unfold rl_dt
      rw [if_pos k10]
      show nI ((rl_inst (y :: r) (rl_v l yt)).getD 0) = _
      rw [hq]; rfl
    have hB9 : (y :: r).length ≤ 409 := h.2.2.2.2.1.1
    have ezz : rl_zz l (y :: r) yt = if q < 9 then rl_ssz q else ((rl_blk (y :: r) (q - 9)).getD (0, -1, 0, 0, [])).2.2.2.1 := by
      unfold rl_zz
      rw [if_neg (by omega), if_neg (by omega), hq]; rfl
    obtain rfl : s = 2 := by omega
    have s2 : 2 = 2 := rfl
    have hql : q < 9 + 409 := by rcases rl_instl hq with w | ⟨w, b, w2, w3, w4, w5⟩ <;> omega
    have x9q : x9 = rv_q q := by
      rw [e9, edt]
      unfold rv_ty
      rw [if_pos s2, nI_clamp (by omega)]
    rcases rl_instl hq with w | ⟨w, b, w2, w3, w4, w5⟩
    · have x9n : x9 = nI (10100 + q) := by rw [x9q]; unfold rv_q; rw [if_pos w]
      have e9t := nI_toInt (n := 10100 + q) (by omega)
      rw [if_pos w] at ezz
      by_cases q5 : q < 5
      · have es : rl_ssz q = 6 := by unfold rl_ssz; rw [if_pos q5]
        refine wq_l 264 d277_262 rfl rfl rfl rfl ?_
        refine wq_b 271 267 d277_264 rfl (by decide) rfl (fun c264 => ?_) (fun c264 => absurd (by decide) c264)
        refine wq_l 273 d277_271 rfl rfl rfl rfl ?_
        refine wq_k 274 1 d277_273 (by decide) rfl ?_
        refine wq_b 312 277 d277_274 rfl (by decide) rfl (fun c274 => ?_) (fun c274 => absurd (by decide) c274)
        refine wq_l 314 d277_312 rfl rfl rfl rfl ?_
        refine wq_k 317 10105 d277_314 (by decide) rfl ?_
        refine wq_b 324 320 d277_317 rfl (by decide) rfl (fun c317 => ?_) (fun c317 => absurd (by rw [i_lt, x9n, e9t]; show _ < (10105 : Int); omega) c317)
        refine wq_l 326 d277_324 rfl rfl rfl rfl ?_
        refine wq_k 329 10100 d277_326 (by decide) rfl ?_
        refine wq_b 337 332 d277_329 rfl (by decide) rfl (fun c329 => absurd c329 (by rw [i_lt, x9n, e9t]; show ¬ _ < (10100 : Int); omega)) (fun c329 => ?_)
        refine wq_k 334 6 d277_332 (by decide) rfl ?_
        refine wq_g 344 d277_334 (by decide) ?_
        refine wq_s 346 d277_344 rfl rfl (Nat.le_of_ble_eq_true rfl) rfl rfl ?_
        exact go _ (by rw [ezz, es]; rfl)
      · have es : rl_ssz q = 3 := by unfold rl_ssz; rw [if_neg q5]
        refine wq_l 264 d277_262 rfl rfl rfl rfl ?_
        refine wq_b 271 267 d277_264 rfl (by decide) rfl (fun c264 => ?_) (fun c264 => absurd (by decide) c264)
        refine wq_l 273 d277_271 rfl rfl rfl rfl ?_
        refine wq_k 274 1 d277_273 (by decide) rfl ?_
        refine wq_b 312 277 d277_274 rfl (by decide) rfl (fun c274 => ?_) (fun c274 => absurd (by decide) c274)
        refine wq_l 314 d277_312 rfl rfl rfl rfl ?_
        refine wq_k 317 10105 d277_314 (by decide) rfl ?_
        refine wq_b 324 320 d277_317 rfl (by decide) rfl (fun c317 => absurd c317 (by rw [i_lt, x9n, e9t]; show ¬ _ < (10105 : Int); omega)) (fun c317 => ?_)
        refine wq_k 321 3 d277_320 (by decide) rfl ?_
        refine wq_g 344 d277_321 (by decide) ?_
        refine wq_s 346 d277_344 rfl rfl (Nat.le_of_ble_eq_true rfl) rfl rfl ?_
        exact go _ (by rw [ezz, es]; rfl)
    · have x9n : x9 = nI (q - 9) := by rw [x9q]; unfold rv_q; rw [if_neg (by omega)]
      have e9t := nI_toInt (n := q - 9) (by omega)
      have e9c := nI_clamp (n := q - 9) (by omega)
      rw [if_neg (by omega), w3] at ezz
      have fr := (h.2.2.2.2.1.2.2 (q - 9) b w3).2.2.2.2.2.2 (Or.inr w5)
      refine wq_l 264 d277_262 rfl rfl rfl rfl ?_
      refine wq_b 271 267 d277_264 rfl (by decide) rfl (fun c264 => ?_) (fun c264 => absurd (by decide) c264)
      refine wq_l 273 d277_271 rfl rfl rfl rfl ?_
      refine wq_k 274 1 d277_273 (by decide) rfl ?_
      refine wq_b 312 277 d277_274 rfl (by decide) rfl (fun c274 => ?_) (fun c274 => absurd (by decide) c274)
      refine wq_l 314 d277_312 rfl rfl rfl rfl ?_
      refine wq_k 317 10105 d277_314 (by decide) rfl ?_
      refine wq_b 324 320 d277_317 rfl (by decide) rfl (fun c317 => ?_) (fun c317 => absurd (by rw [i_lt, x9n, e9t]; show _ < (10105 : Int); omega) c317)
      refine wq_l 326 d277_324 rfl rfl rfl rfl ?_
      refine wq_k 329 10100 d277_326 (by decide) rfl ?_
      refine wq_b 337 332 d277_329 rfl (by decide) rfl (fun c329 => ?_) (fun c329 => absurd (by rw [i_lt, x9n, e9t]; show _ < (10100 : Int); omega) c329)
      refine wq_l 338 d277_337 rfl rfl rfl rfl ?_
      refine wq_gr (ci := 10) (j := 39) (q := 67) 341 d277_338 rfl rfl rfl rfl ?_
      refine wq_l 343 d277_341 rfl rfl rfl rfl ?_
      refine wq_al 344 d277_343 rfl rfl rfl (vp_in_iff.mpr (by rw [x9n, e9t]; have := w5; rw [List.length_cons] at hB9 w5; omega)) ?_
      rw [show x9.toNatClampNeg = q - 9 by rw [x9n]; exact e9c, fr]
      refine wq_s 346 d277_344 rfl rfl (Nat.le_of_ble_eq_true rfl) rfl rfl ?_
      exact go _ (by rw [ezz]; rfl)
