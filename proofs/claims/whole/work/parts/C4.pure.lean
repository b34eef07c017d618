/-! THE WALK'S INVARIANT IS KEPT: leaving -/
theorem lg_9k {l : List pg_N} {NN i : Nat} (hG : lg_G l NN) (hi : i < l.length) (hk : rl_k l i = 9) : rl_k l (i + 3) = 8 := by
  obtain ⟨z1, z2, z3⟩ := lg_cl hG hi
  have h := lg_S hG hi
  rw [hk] at h
  obtain ⟨a, b, e, ha, hb⟩ : ∃ a b, (rl_c l i).map (rl_k l) = [a, b, 8] ∧ sh_K a ∧ sh_K b := h
  obtain ⟨a1, a2, a3, a4, a5, a6, a7⟩ := rl_rwc z1 z3 e
  have q1 : rl_z l (i + 1) = 1 := lg_leaf hG (by omega) (by unfold sh_K at ha; omega)
  rw [q1] at a3 a4 a5 a6 a7
  obtain ⟨b1, b2, b3, b4, b5, b6, b7⟩ := rl_rwc z1 a7 a4
  have q2 : rl_z l (i + 1 + 1) = 1 := lg_leaf hG (by omega) (by unfold sh_K at hb; omega)
  rw [q2] at b3 b4 b5 b6 b7
  exact (rl_rwc z1 b7 b4).2.1
/-- the last of a row -/
theorem lg_last {l : List pg_N} {e i b : Nat} (he : e ≤ l.length) : ∀ (u : List Nat) (s : Nat), rl_cl l s e → s ≤ e → (rl_row l s e).map (rl_k l) = u ++ [b] → (∀ x ∈ u, x ≠ 22) → i ∈ rl_row l s e → rl_k l i = 22 → i + rl_z l i = e
  | [], s, hc, hs, h, _, hm, hk => by
    obtain ⟨a1, a2, a3, a4, a5, a6, a7⟩ := rl_rwc he hc h
    rw [a3, List.map_eq_nil_iff.mp a4] at hm
    rw [List.mem_singleton.mp hm]
    exact rl_rw0 he a7 a4 a5
  | a :: u, s, hc, hs, h, hu, hm, hk => by
    obtain ⟨a1, a2, a3, a4, a5, a6, a7⟩ := rl_rwc he hc h
    rw [a3] at hm
    rcases List.mem_cons.mp hm with w | w
    · rw [w, a2] at hk
      exact absurd hk (hu a (List.mem_cons_self ..))
    · exact lg_last he u (s + rl_z l s) a7 a5 a4 (fun x hx => hu x (List.mem_cons_of_mem _ hx)) w hk
theorem lg_22 {l : List pg_N} {NN p i : Nat} (hG : lg_G l NN) (hp : p < l.length) (hc : i ∈ rl_c l p) (hk : rl_k l i = 22) (kp : rl_k l p = 1 ∨ rl_k l p = 2 ∨ rl_k l p = 3) : i + rl_z l i = p + rl_z l p := by
  obtain ⟨z1, z2, z3⟩ := lg_cl hG hp
  have h := lg_S hG hp
  rcases kp with q | q
  · rw [q] at h
    obtain ⟨u, b, e, h1, h2⟩ : ∃ u b, (rl_c l p).map (rl_k l) = 8 :: (u ++ [b]) ∧ (∀ x ∈ u, x = 4) ∧ sh_b b := h
    refine lg_last z1 (8 :: u) (p + 1) z3 (by omega) (by rw [← rl_crow, e]; rfl) (fun x hx => ?_) hc hk
    rcases List.mem_cons.mp hx with w | w
    · omega
    · have := h1 x w; omega
  · have h : ∃ u b, (rl_c l p).map (rl_k l) = u ++ [b] ∧ (∀ x ∈ u, x = 4) ∧ sh_b b := by rcases q with q | q <;> (rw [q] at h; exact h)
    obtain ⟨u, b, e, h1, h2⟩ := h
    exact lg_last z1 u (p + 1) z3 (by omega) (by rw [← rl_crow, e]) (fun x hx => by have := h1 x hx; omega) hc hk
theorem pi_Uout {l : List pg_N} {NN i nx : Nat} {vs : List rl_V} (hG : lg_G l NN) (h0r : rl_k l 0 = 0) (hi : i < l.length) (i0 : 0 < i) (hn : nx = i + rl_z l i) (h5 : rl_k l i ≠ 5) (h67 : rl_k l (rl_par l i) = 5 → rl_k l i ≠ 6 ∧ rl_k l i ≠ 7) (h : pi_U l i nx vs) : pi_U l (rl_par l i) nx vs := by
  obtain ⟨u1, u2, u3, u4⟩ := h
  obtain ⟨p1, p2, p3⟩ := lg_par hG hi i0
  have hp : rl_par l i < l.length := by omega
  have hR := lg_Rp hG hi i0
  have iz := (rl_zc hG.1 hi).1
  refine ⟨fun z => ?_, fun z => u3 z, fun z => ?_, fun z1 z2 z3 => u4 h5 z1 z2⟩
  · intro m hp' y cs D
    obtain ⟨v1, v2, v3⟩ := u2 z m hp' y cs D
    have D' := D
    obtain ⟨d1, d2, d3, d4, d5, d6, d7, d8, d9⟩ := D
    have yz := (rl_zc hG.1 d6).1
    have hy : rl_par l i + m + 1 ≤ y := by cases hp' <;> simp at d4 <;> omega
    have hy2 : hp' = true → y = rl_par l i + m + 2 := fun w => by rw [w] at d4; exact d4
    have ip : rl_par l i + m + 1 ≤ i ∧ (hp' = true → rl_par l i + m + 1 < i) := by
      rcases lg_Dc D' p2 with w | w | w | w
      · exact absurd w.2.2 (h67 z).1
      · exact absurd w.2.2 (h67 z).2
      · exact ⟨by omega, fun q => by have := hy2 q; omega⟩
      · exact ⟨by omega, fun q => by have := hy2 q; omega⟩
    have e1 : min m (i - rl_par l i - 1) = m := by omega
    have e2 : min m (nx - rl_par l i - 1) = m := by omega
    rw [e1] at v1 v2 v3
    rw [e2]
    refine ⟨v1, fun k v hk hv => ?_, v3⟩
    obtain ⟨w1, w2, w3⟩ := v2 k v hk hv
    refine ⟨w1, w2, w3.trans ?_⟩
    by_cases q : hp' = true
    · rw [if_pos ⟨q, ip.2 q⟩, if_pos ⟨q, by have := ip.2 q; omega⟩]
    · rw [if_neg (fun w => q w.1), if_neg (fun w => q w.1)]
  · have := (lg_n55 hG h0r hp z).2.2
    rw [sh_lf (by omega)] at hR
    cases hR
theorem pi_Lg {l : List pg_N} {NN i nx : Nat} {y y' : rl_B} {r : List rl_B} (hG : lg_G l NN) (h0r : rl_k l 0 = 0) (hi : i < l.length) (i0 : 0 < i) (hnl : nx ≤ l.length) (h : pi_B l i nx (y :: r)) (hk : y'.1 = y.1) (hnm : y'.2.1 = y.2.1) (hnd : y'.2.2.1 = y.2.2.1) (hY : pv_Y r y') (hat : y'.1 ≠ 3 → ∀ v ∈ y'.2.2.2.2, v.2.2.2.2.1 = -1) (hcell : y'.2.2.2.1 ≤ 4252 + l.length) (hU : pi_U l (rl_par l i) nx y'.2.2.2.2) (hV : (cv_L (y' :: r)).length ≤ 32 + cV l nx) (hc2 : rl_par l i ≠ 0 → ¬ (rl_par l i = y.2.2.1 ∧ nx = rl_par l i + rl_z l (rl_par l i)) → y'.2.2.2.1 ≤ 4096 + nx) (hD : rl_par l i = 0 → pv_D y') (hF : (rl_k l i = 9 → 1 ≤ rl_many l i ∧ rl_many l i ≤ 256) ∧ (rl_k l i = 10 → (rl_inst (y :: r) (rl_v l i)).isSome = true)) : pi_B l (rl_par l i) nx (y' :: r) := by
  obtain ⟨b1, b2, b3, b4, b5, b6, b7, b8, b9⟩ := h
  obtain ⟨p1, p2, p3⟩ := lg_par hG hi i0
  have hp : rl_par l i < l.length := by omega
  have hR := lg_Rp hG hi i0
  have up := (rl_upu hG hi i0).1
  have hnode : y.2.2.1 = i ∨ y.2.2.1 ∈ rl_up l i := (b4 (by omega)).2
  obtain ⟨z1, z2, z3, z4, z5⟩ := b2 y (List.mem_cons_self ..)
  refine ⟨pv_h b1 hY, fun z hz => ?_, fun w z hz => ?_, fun w => ⟨(by intro w; cases w), ?_⟩, hU, b6, ?_, fun w1 w2 => hc2 w1 (fun w => w2 (by rw [show (rl_hd (y' :: r)).2.2.1 = y.2.2.1 from hnd]; exact w)), fun j h1 h2 h3 h4 => ?_⟩
  · rcases List.mem_cons.mp hz with w | w
    · rw [w]
      exact ⟨by rw [hnd]; exact z1, by rw [hnd, hk]; exact z2, by rw [hnd, hnm]; exact z3, hat, hcell⟩
    · exact b2 z (List.mem_cons_of_mem _ w)
  · cases hz
    exact hD w
  · show y'.2.2.1 = _ ∨ y'.2.2.1 ∈ _
    rw [hnd]
    rcases hnode with u | u
    · exfalso
      rw [u] at z2
      have hk3 := b1.1.1
      exact w (lg_b0 hG hi i0 (by rw [z2]; exact hk3))
    · rw [up] at u
      rcases List.mem_cons.mp u with v | v
      · exact Or.inl v
      · exact Or.inr v
  · have k6 : ¬ rl_k l (rl_par l i) = 6 := fun z => by rw [sh_lf (Or.inl z)] at hR; cases hR
    rw [if_neg k6]
    exact hV
  · have h1 : y'.2.2.1 < j := h1
    rw [hnd] at h1
    by_cases w : j = i
    · rw [w]; exact hF
    · refine b9 j h1 h2 w (fun u => ?_)
      rw [up] at u
      rcases List.mem_cons.mp u with v | v
      · exact h3 v
      · exact h4 v
/-- settled variables -/
theorem rl_seg {s : Nat} {t at_ : Int32} {f z : Nat} : ∀ (m : Nat) (vs : List rl_V) (k : Nat) (v : rl_V), (rl_settle s t at_ f z m vs)[k]? = some v → (k < m ∧ ∃ v0, vs[k]? = some v0 ∧ v = (v0.1, s, t, v0.2.2.2.1, at_, if at_ = -1 then f + (m - 1 - k) * z else rl_img at_)) ∨ (m ≤ k ∧ vs[k]? = some v)
  | 0, vs, k, v, h => Or.inr ⟨Nat.zero_le _, h⟩
  | m + 1, [], k, v, h => by
    have h : ([] : List rl_V)[k]? = some v := h
    simp at h
  | m + 1, w :: vs, k, v, h => by
    have h : ((w.1, s, t, w.2.2.2.1, at_, if at_ = -1 then f + m * z else rl_img at_) :: rl_settle s t at_ f z m vs)[k]? = some v := h
    cases k with
    | zero =>
      rw [List.getElem?_cons_zero] at h
      cases h
      exact Or.inl ⟨by omega, w, rfl, rfl⟩
    | succ k =>
      rw [List.getElem?_cons_succ] at h
      rcases rl_seg m vs k v h with ⟨q1, v0, q2, q3⟩ | ⟨q1, q2⟩
      · refine Or.inl ⟨by omega, v0, by rw [List.getElem?_cons_succ]; exact q2, ?_⟩
        rw [q3, show m + 1 - 1 - (k + 1) = m - 1 - k by omega]
      · exact Or.inr ⟨by omega, by rw [List.getElem?_cons_succ]; exact q2⟩
theorem rl_sen {s : Nat} {t at_ : Int32} {f z : Nat} : ∀ (m : Nat) (vs : List rl_V), (rl_settle s t at_ f z m vs).map (·.1) = vs.map (·.1)
  | 0, _ => rfl
  | m + 1, [] => rfl
  | m + 1, w :: vs => by
    show w.1 :: (rl_settle s t at_ f z m vs).map (·.1) = _
    rw [rl_sen m vs]; rfl
theorem pv_pw {vs ws : List rl_V} (h : ws.map (·.1) = vs.map (·.1)) (hp : vs.Pairwise (fun a b => a.1 ≠ b.1)) : ws.Pairwise (fun a b => a.1 ≠ b.1) := by
  have h1 : (vs.map (·.1)).Pairwise (· ≠ ·) := List.pairwise_map.mpr hp
  rw [← h] at h1
  exact List.pairwise_map.mp h1
/-- a declaration is left -/
theorem pi_L5 {l : List pg_N} {NN i nx : Nat} {y : rl_B} {r : List rl_B} {T : (Nat → Int32) × (Nat → Int32) × (Nat → Int32)} (hG : lg_G l NN) (h0r : rl_k l 0 = 0) (hi : i < l.length) (hn : nx = i + rl_z l i) (hk : rl_k l i = 5) (hB : pi_B l i nx (y :: r)) (cx : cx_L l (y :: r, T) i) (hf : (rl_decl l (y :: r, T) i).1 = 0) : pi_B l (rl_par l i) nx (rl_decl l (y :: r, T) i).2.1 := by
  obtain ⟨i0, p1, p3, p2, k4, gg, gg1, gg2⟩ := lg_sec hG hi h0r hk
  have iz := (rl_zc hG.1 hi).2
  obtain ⟨m, hp, yy, cs, D⟩ := lg_5 hG hi hk
  obtain ⟨_, _, _, _, _, _, x5, _⟩ := cx
  obtain ⟨w1, w2, w3, w4, w5, w6⟩ := x5 hk m hp yy cs D
  have w1 : m ≤ y.2.2.2.2.length := w1
  have w2 : ∀ (k : Nat) (v : rl_V), k < m → y.2.2.2.2[k]? = some v → v.2.1 = 3 ∧ v.2.2.2.2.1 = rl_dsp l i m hp := w2
  have w3 : ∀ (k : Nat) (v : rl_V), k < m → y.2.2.2.2[k]? = some v → v.2.2.2.1 = (rl_v l (rl_par l i)).toNatClampNeg := w3
  have w5 : rl_k l yy = 10 → (rl_inst (y :: r) (rl_v l yy)).isSome = true := w5
  have w6 : y.2.2.2.1 + m * rl_zz l (y :: r) yy < 2 ^ 28 := w6
  rw [rl_decl_u D] at hf ⊢
  have D' := D
  obtain ⟨d1, d2, d3, d4, d5, d6, d7, d8, d9⟩ := D
  have yz := (rl_zc hG.1 d6).1
  by_cases c1 : (rl_v l (rl_par l i)).toNatClampNeg ≠ 0 ∧ rl_k l yy ≠ 8
  · rw [if_pos c1] at hf; exact absurd (show (43 : Nat) = 0 from hf) (by decide)
  rw [if_neg c1] at hf ⊢
  by_cases c2 : hp = true ∧ (rl_k l yy ≠ 8 ∨ rl_dt l (y :: r, T) yy ≠ (if rl_area (rl_dsp l i m hp) < 3 then 0 else 1))
  · rw [if_pos c2] at hf; exact absurd (show (15 : Nat) = 0 from hf) (by decide)
  rw [if_neg c2] at hf ⊢
  by_cases c3 : cs = true ∧ (rl_k l yy = 10 ∨ (hp && decide (rl_area (rl_dsp l i m hp) % 3 = 0)) = true ∨ rl_bad (rl_k l (yy + rl_z l yy)) (rl_v l (yy + rl_z l yy)) (rl_dt l (y :: r, T) yy) = true)
  · rw [if_pos c3] at hf; exact absurd (show (18 : Nat) = 0 from hf) (by decide)
  rw [if_neg c3] at hf ⊢
  by_cases c4 : 4096 < (if hp then (rl_cur (y :: r, T)).2.2.2.1 else (rl_cur (y :: r, T)).2.2.2.1 + m * rl_zz l (y :: r) yy)
  · rw [if_pos c4] at hf; exact absurd (show (19 : Nat) = 0 from hf) (by decide)
  rw [if_neg c4]
  have hb1 := hB.1
  obtain ⟨y1, y2, y3, y4, y5, y6⟩ := hb1.1
  have hym := hB.2.1 y (List.mem_cons_self ..)
  have hU := hB.2.2.2.2.1
  have c4' : (if hp then y.2.2.2.1 else y.2.2.2.1 + m * rl_zz l (y :: r) yy) ≤ 4096 := Nat.not_lt.mp c4
  have spv : rl_dsp l i m hp = -1 ∨ ∃ a o, a < 6 ∧ o < 256 ∧ (3 ≤ a → o < 64) ∧ rl_dsp l i m hp = nI (256 * a + o) := by
    cases hp with
    | true =>
      have e2 : yy = i + m + 2 := d4
      exact Or.inr (lg_7 hG (by omega) (d3 rfl))
    | false => exact Or.inl rfl
  have hyn : i + m + 1 < nx := by
    have h1 : i + m + 1 ≤ yy := by cases hp <;> simp at d4 <;> omega
    have h2 : yy + rl_z l yy ≤ i + rl_z l i := by cases cs <;> simp at d7 <;> omega
    omega
  have mm : min m (nx - i - 1) = m := by omega
  obtain ⟨_, _, v3⟩ := hU.1 hk m hp yy cs D'
  rw [mm] at v3
  have s2 : rl_k l yy - 8 ≤ 2 := by omega
  have tT : rl_k l yy - 8 ≤ 1 → pv_T (rl_dt l (y :: r, T) yy) := fun z => by
    have n10 : ¬ rl_k l yy = 10 := by omega
    unfold rl_dt rl_st
    rw [if_neg n10]
    have T3 : ∀ g : Nat, g ≤ 2 → pv_T (nI g) := fun g hg => by
      have : g = 0 ∨ g = 1 ∨ g = 2 := by omega
      unfold pv_T
      rcases this with w | w | w <;> (rw [w]; decide)
    by_cases k9 : rl_k l yy = 9
    · rw [if_pos k9]
      obtain ⟨g, g1, g2⟩ := (lg_V hG (lg_9 hG d6 k9).1).2.2.1 (Or.inr (lg_9k hG d6 k9))
      rw [g2]; exact T3 g g1
    · rw [if_neg k9]
      obtain ⟨g, g1, g2⟩ := (lg_V hG d6).2.2.1 (Or.inr (by omega))
      rw [g2]; exact T3 g g1
  have tI : rl_k l yy - 8 = 2 → ∃ q, q < 9 + r.length ∧ rl_dt l (y :: r, T) yy = nI q ∧ cb_kd r q = 2 := fun z => by
    have k10 : rl_k l yy = 10 := by omega
    obtain ⟨q, eq⟩ := Option.isSome_iff_exists.mp (w5 k10)
    refine ⟨q, ?_, ?_, ?_⟩
    · rcases rl_instl eq with u | ⟨_, _, _, _, _, u⟩
      · omega
      · rw [List.length_cons] at u; omega
    · unfold rl_dt
      rw [if_pos k10]
      show nI ((rl_inst (y :: r) (rl_v l yy)).getD 0) = nI q
      rw [eq]; rfl
    · unfold cb_kd
      rcases rl_instl eq with u | ⟨u1, z', _, u2, u3, u4⟩
      · rw [if_pos u]
      · rw [if_neg (by omega)]
        rw [List.length_cons] at u4
        rw [rl_blkc, if_neg (by omega)] at u2
        rw [u2]; exact u3
  have inv : ∀ v ∈ rl_settle (rl_k l yy - 8) (rl_dt l (y :: r, T) yy) (rl_dsp l i m hp) y.2.2.2.1 (rl_zz l (y :: r) yy) m y.2.2.2.2, pv_v r v ∧ v.2.1 ≠ 3 ∧ (y.1 ≠ 3 → v.2.2.2.2.1 = -1) := fun v hv => by
    obtain ⟨k, hk'⟩ := List.getElem?_of_mem hv
    rcases rl_seg m y.2.2.2.2 k v hk' with ⟨q1, v0, q2, q3⟩ | ⟨q1, q2⟩
    · have m0 := List.mem_of_getElem? q2
      have pv0 := y5 v0 m0
      obtain ⟨a1, a2⟩ := w2 k v0 q1 q2
      have a3 := w3 k v0 q1 q2
      rw [q3]
      refine ⟨⟨by show rl_k l yy - 8 ≤ 3; omega, pv0.2.1, tT, tI, ?_, spv, fun z => ?_⟩, by show rl_k l yy - 8 ≠ 3; omega, fun z => ?_⟩
      · show (if rl_dsp l i m hp = -1 then y.2.2.2.1 + (m - 1 - k) * rl_zz l (y :: r) yy else rl_img (rl_dsp l i m hp)) ≤ 4096
        by_cases u : rl_dsp l i m hp = -1
        · rw [if_pos u]
          have mz := Nat.mul_le_mul_right (rl_zz l (y :: r) yy) (show m - 1 - k ≤ m by omega)
          cases hp with
          | true =>
            exfalso
            have e2 : yy = i + m + 2 := d4
            obtain ⟨a, o, ha, ho, h3, hv'⟩ := lg_7 hG (show i + m + 1 < l.length by omega) (d3 rfl)
            have u : rl_v l (i + m + 1) = -1 := u
            rw [hv'] at u
            exact hp_ne (by omega) u
          | false =>
            have c4' : y.2.2.2.1 + m * rl_zz l (y :: r) yy ≤ 4096 := c4'
            omega
        · rw [if_neg u]
          rcases spv with u' | ⟨a, o, ha, ho, h3, hv'⟩
          · exact absurd u' u
          · rw [hv']
            have := pl_l ha ho h3
            omega
      · left
        show rl_k l yy - 8 = 0
        have z : v0.2.2.2.1 ≠ 0 := z
        rw [a3] at z
        have : rl_k l yy = 8 := Classical.not_not.mp (fun u => c1 ⟨z, u⟩)
        omega
      · show rl_dsp l i m hp = -1
        rw [← a2]
        exact hym.2.2.2.1 z v0 m0
    · have m0 := List.mem_of_getElem? q2
      exact ⟨y5 v m0, v3 k v q1 q2, fun z => hym.2.2.2.1 z v m0⟩
  have hp4 : rl_par l i ≠ 0 := fun z => by rw [z] at k4; omega
  show pi_B l (rl_par l i) nx ((y.1, y.2.1, y.2.2.1, (if hp then y.2.2.2.1 else y.2.2.2.1 + m * rl_zz l (y :: r) yy), rl_settle (rl_k l yy - 8) (rl_dt l (y :: r, T) yy) (rl_dsp l i m hp) y.2.2.2.1 (rl_zz l (y :: r) yy) m y.2.2.2.2) :: r)
  refine pi_Lg hG h0r hi i0 (by omega) hB rfl rfl rfl ⟨y1, y2, y3, ?_, fun v hv => (inv v hv).1, pv_pw (rl_sen m _) y6⟩ (fun z v hv => (inv v hv).2.2 z) ?_ ?_ ?_ (fun _ _ => ?_) (fun z => absurd z hp4) ⟨fun z => by omega, fun z => by omega⟩
  · show (if hp then y.2.2.2.1 else y.2.2.2.1 + m * rl_zz l (y :: r) yy) < _
    omega
  · show (if hp then y.2.2.2.1 else y.2.2.2.1 + m * rl_zz l (y :: r) yy) ≤ _
    omega
  · have hpp : rl_par l i < l.length := by omega
    refine ⟨fun z => by omega, fun z => ?_, fun z => ?_, fun _ _ _ v hv => (inv v hv).2.1⟩
    · have := (lg_n5 hG h0r hpp z).2; omega
    · have := (lg_n55 hG h0r hpp z).2.2; omega
  · rw [cv_Lv (y := y) (rl_sel _ _ _ _ _ _ _)]
    have := hB.2.2.2.2.2.2.1
    omega
  · show (if hp then y.2.2.2.1 else y.2.2.2.1 + m * rl_zz l (y :: r) yy) ≤ _
    omega
