/-! THE WALK'S INVARIANT IS KEPT: names, places, ladders, the rest -/
theorem pi_L6 {l : List pg_N} {NN i nx : Nat} {y : rl_B} {r : List rl_B} {T : (Nat → Int32) × (Nat → Int32) × (Nat → Int32)} (hG : lg_G l NN) (h0r : rl_k l 0 = 0) (hi : i < l.length) (hn : nx = i + rl_z l i) (hk : rl_k l i = 6) (k5 : rl_k l (rl_par l i) = 5) (hB : pi_B l i nx (y :: r)) (hx : rl_find y.2.2.2.2 (rl_v l i) = none) : pi_B l (rl_par l i) nx (rl_dcl (y :: r, T) (rl_v l i) (rl_v l (rl_par l (rl_par l i))).toNatClampNeg).1 := by
  have i0 : 0 < i := (lg_n5 hG h0r hi k5).1
  obtain ⟨p1, p2, p3⟩ := lg_par hG hi i0
  have hp : rl_par l i < l.length := by omega
  have zi : rl_z l i = 1 := lg_leaf hG hi (Or.inl hk)
  have iz := (rl_zc hG.1 hi).2
  obtain ⟨_, s1, _, _, s4, gg, gg1, gg2⟩ := lg_sec hG hp h0r k5
  have hb1 := hB.1
  obtain ⟨y1, y2, y3, y4, y5, y6⟩ := hb1.1
  have hym := hB.2.1 y (List.mem_cons_self ..)
  obtain ⟨u1, u2, u3, u4⟩ := hB.2.2.2.2.1
  have hnew : pv_v r (rl_v l i, 3, 0, (rl_v l (rl_par l (rl_par l i))).toNatClampNeg, -1, 0) := by
    refine ⟨Nat.le_refl 3, ?_, fun z => absurd (show (3 : Nat) ≤ 1 from z) (by decide), fun z => absurd (show (3 : Nat) = 2 from z) (by decide), Nat.le_of_ble_eq_true rfl, Or.inl rfl, fun _ => Or.inr rfl⟩
    show (rl_v l (rl_par l (rl_par l i))).toNatClampNeg ≤ 2
    rw [gg2, nI_clamp (by omega)]; exact gg1
  have fresh : ∀ v ∈ y.2.2.2.2, rl_v l i ≠ v.1 := fun v hv z => by
    have := List.find?_eq_none.mp hx v hv
    exact this (decide_eq_true z.symm)
  have hp0 : rl_par l i ≠ 0 := fun z => by rw [z] at k5; omega
  show pi_B l (rl_par l i) nx ((y.1, y.2.1, y.2.2.1, y.2.2.2.1, (rl_v l i, 3, 0, (rl_v l (rl_par l (rl_par l i))).toNatClampNeg, -1, 0) :: y.2.2.2.2) :: r)
  refine pi_Lg hG h0r hi i0 (by omega) hB rfl rfl rfl ⟨y1, y2, y3, y4, fun v hv => ?_, List.pairwise_cons.mpr ⟨fresh, y6⟩⟩ (fun z v hv => ?_) hym.2.2.2.2 ⟨fun _ => ?_, fun z => ?_, fun z => ?_, fun z => absurd k5 z⟩ ?_ (fun w1 w2 => ?_) (fun z => absurd z hp0) ⟨fun z => by omega, fun z => by omega⟩
  · rcases List.mem_cons.mp hv with w | w
    · rw [w]; exact hnew
    · exact y5 v w
  · rcases List.mem_cons.mp hv with w | w
    · rw [w]
    · exact hym.2.2.2.1 z v w
  · intro m hp' yy cs D
    obtain ⟨v1, v2, v3⟩ := u2 k5 m hp' yy cs D
    have v1 : min m (i - rl_par l i - 1) ≤ y.2.2.2.2.length := v1
    have v2 : ∀ (k : Nat) (v : rl_V), k < min m (i - rl_par l i - 1) → y.2.2.2.2[k]? = some v → v.2.1 = 3 ∧ v.2.2.2.1 = (rl_v l (rl_par l (rl_par l i))).toNatClampNeg ∧ v.2.2.2.2.1 = (if hp' = true ∧ rl_par l i + m + 1 < i then rl_v l (rl_par l i + m + 1) else -1) := v2
    have v3 : ∀ (k : Nat) (v : rl_V), min m (i - rl_par l i - 1) ≤ k → y.2.2.2.2[k]? = some v → v.2.1 ≠ 3 := v3
    have im : i ≤ rl_par l i + m := by
      rcases lg_Dc D p2 with w | w | w | w
      · exact w.2.1
      · omega
      · omega
      · omega
    have e1 : min m (nx - rl_par l i - 1) = min m (i - rl_par l i - 1) + 1 := by omega
    rw [e1]
    refine ⟨by show _ ≤ (_ :: y.2.2.2.2).length; rw [List.length_cons]; omega, fun k v hk' hv => ?_, fun k v hk' hv => ?_⟩
    · cases k with
      | zero =>
        have hv : some _ = some v := hv
        cases hv
        exact ⟨rfl, rfl, by rw [if_neg (by omega)]⟩
      | succ k =>
        have hv : y.2.2.2.2[k]? = some v := hv
        obtain ⟨a1, a2, a3⟩ := v2 k v (by omega) hv
        refine ⟨a1, a2, ?_⟩
        rw [if_neg (by omega)] at a3 ⊢
        exact a3
    · cases k with
      | zero => omega
      | succ k =>
        have hv : y.2.2.2.2[k]? = some v := hv
        exact v3 k v (by omega) hv
  · omega
  · have := (lg_n55 hG h0r hp z).2.2; omega
  · have b7 := hB.2.2.2.2.2.2.1
    rw [if_pos hk] at b7
    have e : (cv_L ((y.1, y.2.1, y.2.2.1, y.2.2.2.1, (rl_v l i, 3, 0, (rl_v l (rl_par l (rl_par l i))).toNatClampNeg, -1, 0) :: y.2.2.2.2) :: r)).length = (cv_L (y :: r)).length + 1 := by
      show (cv_L r ++ (_ :: y.2.2.2.2).reverse.map _).length = (cv_L r ++ y.2.2.2.2.reverse.map _).length + 1
      rw [List.length_append, List.length_append, List.length_map, List.length_map, List.length_reverse, List.length_reverse, List.length_cons]
      omega
    rw [e]; exact b7
  · refine hB.2.2.2.2.2.2.2.1 (by omega) (fun w => ?_)
    have w1 : i = y.2.2.1 := w.1
    have z2 := hym.2.1
    rw [← w1, hk] at z2
    omega
theorem pi_L7 {l : List pg_N} {NN i nx : Nat} {y : rl_B} {r : List rl_B} (hG : lg_G l NN) (h0r : rl_k l 0 = 0) (hi : i < l.length) (hn : nx = i + rl_z l i) (hk : rl_k l i = 7) (hB : pi_B l i nx (y :: r)) (h3 : y.1 = 3) (h1 : ¬ 1 < i - rl_par l i - 1) : pi_B l (rl_par l i) nx ((y.1, y.2.1, y.2.2.1, y.2.2.2.1, rl_atp (rl_v l i) y.2.2.2.2) :: r) := by
  have i0 : 0 < i := by
    rcases Nat.eq_zero_or_pos i with w | w
    · rw [w] at hk; omega
    · exact w
  obtain ⟨p1, p2, p3⟩ := lg_par hG hi i0
  have hp : rl_par l i < l.length := by omega
  have hR := lg_Rp hG hi i0
  rw [hk] at hR
  have k5 : rl_k l (rl_par l i) = 5 := sh_k7 _ (by have := (lg_V hG hp).1; omega) 7 (by decide) hR rfl
  have zi : rl_z l i = 1 := lg_leaf hG hi (Or.inr (Or.inl hk))
  have iz := (rl_zc hG.1 hi).2
  obtain ⟨_, s1, _, _, s4, _⟩ := lg_sec hG hp h0r k5
  have hb1 := hB.1
  obtain ⟨y1, y2, y3, y4, y5, y6⟩ := hb1.1
  have hym := hB.2.1 y (List.mem_cons_self ..)
  obtain ⟨u1, u2, u3, u4⟩ := hB.2.2.2.2.1
  have hp0 : rl_par l i ≠ 0 := fun z => by rw [z] at k5; omega
  have am : (rl_atp (rl_v l i) y.2.2.2.2).map (·.1) = y.2.2.2.2.map (·.1) := by cases y.2.2.2.2 <;> rfl
  have al : (rl_atp (rl_v l i) y.2.2.2.2).length = y.2.2.2.2.length := by cases y.2.2.2.2 <;> rfl
  refine pi_Lg hG h0r hi i0 (by omega) hB rfl rfl rfl ⟨y1, y2, y3, y4, fun v hv => ?_, pv_pw am y6⟩ (fun z => absurd h3 z) hym.2.2.2.2 ⟨fun _ => ?_, fun z => ?_, fun z => ?_, fun z => absurd k5 z⟩ ?_ (fun w1 w2 => ?_) (fun z => absurd z hp0) ⟨fun z => by omega, fun z => by omega⟩
  · have hv : v ∈ rl_atp (rl_v l i) y.2.2.2.2 := hv
    cases hvs : y.2.2.2.2 with
    | nil => rw [hvs] at hv; exact absurd hv List.not_mem_nil
    | cons a t =>
      rw [hvs] at hv y5
      rcases List.mem_cons.mp hv with w | w
      · rw [w]
        obtain ⟨a1, a2, a3, a4, a5, a6, a7⟩ := y5 a (List.mem_cons_self ..)
        exact ⟨a1, a2, a3, a4, a5, Or.inr (lg_7 hG hi hk), a7⟩
      · exact y5 v (List.mem_cons_of_mem _ w)
  · intro m hp' yy cs D
    obtain ⟨v1, v2, v3⟩ := u2 k5 m hp' yy cs D
    have ei : i = rl_par l i + m + 1 ∧ hp' = true := by
      rcases lg_Dc D p2 with w | w | w | w
      · omega
      · exact ⟨w.1, w.2.1⟩
      · omega
      · omega
    have m1 : m = 1 := by have := D.1; omega
    subst m1
    have e1 : min 1 (i - rl_par l i - 1) = 1 := by omega
    have e2 : min 1 (nx - rl_par l i - 1) = 1 := by omega
    rw [e1] at v1 v2 v3
    rw [e2]
    have v1 : 1 ≤ y.2.2.2.2.length := v1
    refine ⟨by show 1 ≤ (rl_atp _ _).length; rw [al]; exact v1, fun k v hk' hv => ?_, fun k v hk' hv => ?_⟩
    · have k0 : k = 0 := by omega
      subst k0
      cases hvs : y.2.2.2.2 with
      | nil => rw [hvs] at v1; exact absurd v1 (by decide)
      | cons a t =>
        have hv : (rl_atp (rl_v l i) y.2.2.2.2)[0]? = some v := hv
        rw [hvs] at hv
        cases hv
        obtain ⟨a1, a2, a3⟩ := v2 0 a (by omega) (by show y.2.2.2.2[0]? = _; rw [hvs]; rfl)
        refine ⟨a1, a2, ?_⟩
        rw [if_pos ⟨ei.2, by omega⟩]
        show rl_v l i = _
        rw [← ei.1]
    · cases k with
      | zero => omega
      | succ k =>
        refine v3 (k + 1) v (by omega) ?_
        have hv : (rl_atp (rl_v l i) y.2.2.2.2)[k + 1]? = some v := hv
        show y.2.2.2.2[k + 1]? = some v
        cases hvs : y.2.2.2.2 with
        | nil => rw [hvs] at hv; exact hv
        | cons a t => rw [hvs] at hv; exact hv
  · omega
  · have := (lg_n55 hG h0r hp z).2.2; omega
  · rw [cv_Lv (y := y) al]
    have := hB.2.2.2.2.2.2.1
    omega
  · refine hB.2.2.2.2.2.2.2.1 (by omega) (fun w => ?_)
    have w1 : i = y.2.2.1 := w.1
    have z2 := hym.2.1
    rw [← w1, hk] at z2
    omega
theorem pi_Ls {l : List pg_N} {NN : Nat} (hG : lg_G l NN) (h0r : rl_k l 0 = 0) (hC : lg_C l) {i nx : Nat} {A : rl_A} (hI : pi_I l (some i, nx, A)) (hn : ¬ nx < i + rl_z l i) (hf : (rl_out l A i).1 = 0) : pi_I l ((rl_up l i).head?, nx, (rl_out l A i).2) := by
  have hI' := hI
  obtain ⟨gG, _, gB⟩ : pi_G l (some i) nx ∧ ((some i : Option Nat) = none → nx = 0 → A.1 = []) ∧ ∀ j, some i = some j → pi_B l j nx A.1 := hI
  obtain ⟨q1, q2, q3, q4, q5, q6⟩ := pi_out hG gG hn
  have iz := (rl_zc hG.1 q1).2
  rcases Nat.eq_zero_or_pos i with w | i0
  · subst w
    refine ⟨q4, fun _ z => ?_, fun j hj => ?_⟩
    · have z : nx = 0 := z
      omega
    · have hj : (rl_up l 0).head? = some j := hj
      rw [rl_up0] at hj
      cases hj
  · obtain ⟨p1, p2, p3⟩ := lg_par hG q1 i0
    have hp : rl_par l i < l.length := by omega
    have cx := pi_Lc hG h0r hC hI' hn (by omega)
    refine ⟨q4, fun z => ?_, fun j hj => ?_⟩
    · have z : (rl_up l i).head? = none := z
      rw [p3] at z
      cases z
    have hj : (rl_up l i).head? = some j := hj
    rw [p3] at hj
    cases hj
    show pi_B l (rl_par l i) nx (rl_out l A i).2.1
    have hB := gB i rfl
    have kl := (lg_V hG q1).1
    obtain ⟨B, T⟩ := A
    cases B with
    | nil => exact absurd rfl cx.2.1
    | cons y r =>
      have hB : pi_B l i nx (y :: r) := hB
      have hym := hB.2.1 y (List.mem_cons_self ..)
      by_cases h5 : rl_k l i = 5
      · rw [rl_o5 h5] at hf ⊢
        exact pi_L5 hG h0r q1 q3 h5 hB cx hf
      by_cases h7 : rl_k l i = 7
      · rw [rl_o7 h7] at hf ⊢
        have hf : (if (rl_cur (y :: r, T)).1 ≠ 3 ∨ 1 < i - rl_par l i - 1 ∨ ((rl_cur (y :: r, T)).2.2.2.2.any (fun v => decide (v.2.2.2.2.1 = rl_v l i))) = true then 14 else 0) = 0 := hf
        have nf : ¬ ((rl_cur (y :: r, T)).1 ≠ 3 ∨ 1 < i - rl_par l i - 1 ∨ ((rl_cur (y :: r, T)).2.2.2.2.any (fun v => decide (v.2.2.2.2.1 = rl_v l i))) = true) := fun z => by rw [if_pos z] at hf; exact absurd hf (by decide)
        exact pi_L7 hG h0r q1 q3 h7 hB (Classical.not_not.mp (fun z => nf (Or.inl z))) (fun z => nf (Or.inr (Or.inl z)))
      by_cases h6 : rl_k l i = 6 ∧ rl_k l (rl_par l i) = 5
      · rw [rl_o6 h6.1, if_pos h6.2] at hf ⊢
        by_cases a : (rl_find (rl_cur (y :: r, T)).2.2.2.2 (rl_v l i)).isSome = true ∨ rl_taken (y :: r, T) (rl_v l i) = true
        · rw [if_pos a] at hf; exact absurd (show (12 : Nat) = 0 from hf) (by decide)
        · rw [if_neg a]
          refine pi_L6 hG h0r q1 q3 h6.1 h6.2 hB ?_
          cases e : rl_find y.2.2.2.2 (rl_v l i) with
          | none => rfl
          | some v => exact absurd (Or.inl (by show (rl_find y.2.2.2.2 (rl_v l i)).isSome = true; rw [e]; rfl)) a
      have hU := pi_Uout hG h0r q1 i0 q3 h5 (fun z => ⟨fun w => h6 ⟨w, z⟩, h7⟩) hB.2.2.2.2.1
      have hU : pi_U l (rl_par l i) nx y.2.2.2.2 := hU
      have hb1 := hB.1
      have b7 := hB.2.2.2.2.2.2.1
      have b8 := hB.2.2.2.2.2.2.2.1
      have b8 : i ≠ 0 → ¬ (i = y.2.2.1 ∧ nx = i + rl_z l i) → y.2.2.2.1 ≤ 4096 + nx := b8
      by_cases h22 : rl_k l i = 22
      · rw [rl_o22 h22]
        have hR := lg_Rp hG q1 i0
        rw [h22] at hR
        have kp := sh_k22 _ (by have := (lg_V hG hp).1; omega) 22 (by decide) hR rfl
        have lst := lg_22 hG hp p2 h22 kp
        have hc : y.2.2.2.1 ≤ 4096 + nx := b8 (by omega) (fun w => by
          have z2 := hym.2.1
          rw [← w.1, h22] at z2
          have := hb1.1.1
          omega)
        obtain ⟨y1, y2, y3, y4, y5, y6⟩ := hb1.1
        have hp0 : rl_par l i ≠ 0 := fun z => by rw [z] at kp; omega
        have hnode : y.2.2.1 = i ∨ y.2.2.1 ∈ rl_up l i := (hB.2.2.2.1 (by omega)).2
        have nd : y.2.2.1 = rl_par l i := by
          rcases hnode with w | w
          · have z2 := hym.2.1
            rw [w, h22] at z2
            omega
          · rw [(rl_upu hG q1 i0).1] at w
            rcases List.mem_cons.mp w with v | v
            · exact v
            · exfalso
              have pz := lg_b0 hG hp (by omega) (by omega)
              rw [(rl_upu hG hp (by omega)).1, pz] at v
              rcases List.mem_cons.mp v with t | t
              · have z2 := hym.2.1
                rw [t, h0r] at z2
                omega
              · exact absurd t List.not_mem_nil
        show pi_B l (rl_par l i) nx ((y.1, y.2.1, y.2.2.1, y.2.2.2.1 + 156, y.2.2.2.2) :: r)
        refine pi_Lg hG h0r q1 i0 (by omega) hB rfl rfl rfl ⟨y1, y2, y3, by show y.2.2.2.1 + 156 < _; have := hG.2.2.2.1; omega, y5, y6⟩ hym.2.2.2.1 (by show y.2.2.2.1 + 156 ≤ _; omega) hU (by rw [cv_Lv (y := y) (y' := (y.1, y.2.1, y.2.2.1, y.2.2.2.1 + 156, y.2.2.2.2)) (r := r) rfl]; omega) (fun w1 w2 => absurd ⟨nd.symm, by omega⟩ w2) (fun z => absurd z hp0) ⟨fun z => by omega, fun z => by omega⟩
      have oA := (rl_oA (l := l) (A := (y :: r, T)) (i := i) kl h5 h7 h22 (fun a b => h6 ⟨a, b⟩)).1
      rw [oA]
      refine pi_Lg hG h0r q1 i0 (by omega) hB rfl rfl rfl hb1.1 hym.2.2.2.1 hym.2.2.2.2 hU (by omega) (fun w1 w2 => b8 (by omega) (fun w => ?_)) (fun z => ?_) ⟨fun z => ?_, fun z => ?_⟩
      · have z2 := hym.2.1
        rw [← w.1] at z2
        exact w1 (lg_b0 hG q1 i0 (by rw [z2]; exact hb1.1.1))
      · have hnode : y.2.2.1 = i ∨ y.2.2.1 ∈ rl_up l i := (hB.2.2.2.1 (by omega)).2
        have nd : y.2.2.1 = i := by
          rcases hnode with w | w
          · exact w
          · exfalso
            rw [(rl_upu hG q1 i0).1, z] at w
            rcases List.mem_cons.mp w with t | t
            · have z2 := hym.2.1
              rw [t, h0r] at z2
              have := hb1.1.1
              omega
            · exact absurd t List.not_mem_nil
        have ki : rl_k l i = y.1 := by rw [← nd]; exact hym.2.1
        have k3 := hb1.1.1
        refine ⟨?_, fun z1 => ?_, hym.2.2.2.1⟩
        · exact hB.2.2.2.2.1.2.2.2 (by omega) (by rw [z]; omega) (by rw [z]; show rl_k l 0 ≠ 5; omega)
        · rw [rl_o1 (ki.trans z1)] at hf
          have hf : (if 8 < rl_nin y then 44 else 0) = 0 := hf
          by_cases a : 8 < rl_nin y
          · rw [if_pos a] at hf; exact absurd hf (by decide)
          · omega
      · rw [rl_o9 z] at hf
        have hf : (if (rl_cur (y :: r, T)).1 = 1 ∨ rl_k l (i + 1) = 31 ∨ rl_k l (i + 2) = 31 ∨ rl_many l i < 1 ∨ 256 < rl_many l i then 16 else 0) = 0 := hf
        by_cases a : (rl_cur (y :: r, T)).1 = 1 ∨ rl_k l (i + 1) = 31 ∨ rl_k l (i + 2) = 31 ∨ rl_many l i < 1 ∨ 256 < rl_many l i
        · rw [if_pos a] at hf; exact absurd hf (by decide)
        · refine ⟨Int.not_lt.mp (fun w => a (Or.inr (Or.inr (Or.inr (Or.inl w))))), Int.not_lt.mp (fun w => a (Or.inr (Or.inr (Or.inr (Or.inr w)))))⟩
      · rw [rl_o10 z] at hf
        have hf : (if (rl_cur (y :: r, T)).1 = 1 ∨ rl_inst (y :: r) (rl_v l i) = none then 17 else 0) = 0 := hf
        by_cases a : (rl_cur (y :: r, T)).1 = 1 ∨ rl_inst (y :: r) (rl_v l i) = none
        · rw [if_pos a] at hf; exact absurd hf (by decide)
        · cases e : rl_inst (y :: r) (rl_v l i) with
          | none => exact absurd (Or.inr e) a
          | some q => rfl
/-- the invariant says what the rules need, and is kept -/
theorem pi_all {l : List pg_N} {NN : Nat} (hG : lg_G l NN) (h0r : rl_k l 0 = 0) (hC : lg_C l) : pi_W l (pi_I l) := by
  refine ⟨fun w h => h.1, fun w h hn => pi_Ec hG h0r hC w h hn, fun i nx A h hn => ⟨fun i0 => pi_Lc hG h0r hC h hn i0, fun i0 => ?_⟩, fun w h hs => ?_⟩
  · subst i0
    have q := pi_out hG h.1 hn
    have q6 := q.2.2.2.2.2 rfl
    have q6 : nx = l.length := q6
    exact pi_L0 hG.2.2.2.1 hC h (by omega)
  · obtain ⟨o, nx, A⟩ := w
    by_cases hn : nx < rl_end l o
    · rw [rl_sti hn] at hs ⊢
      exact pi_Es hG h0r hC h hn hs
    · cases o with
      | none =>
        have e : rl_step l (none, nx, A) = (0, 0, none, nx, A) := if_neg hn
        rw [e]; exact h
      | some i =>
        have hn : ¬ nx < i + rl_z l i := hn
        rw [rl_sto hn] at hs ⊢
        exact pi_Ls hG h0r hC h hn hs
theorem pi_0 {l : List pg_N} : pi_I l (none, 0, rl_A0) := ⟨Or.inl rfl, fun _ _ => rfl, fun i h => (by cases h)⟩
theorem rl_oLa {l : List pg_N} {NN : Nat} (hG : lg_G l NN) (A : rl_A) (i : Nat) : (rl_out l A i).1 < 2 ^ 20 := by
  rcases Nat.lt_or_ge i l.length with w | w
  · exact rl_oL hG A i w
  · have e : rl_k l i = 99 := by
      unfold rl_k rl_x
      rw [List.getD_eq_getElem?_getD, List.getElem?_eq_none w]
      rfl
    have e2 : rl_out l A i = (0, A) := by
      unfold rl_out
      dsimp only
      rw [e]
      rfl
    rw [e2]; exact Nat.le_of_ble_eq_true rfl
