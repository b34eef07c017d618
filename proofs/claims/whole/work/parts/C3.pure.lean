/-! THE WALK'S INVARIANT IS KEPT: entering -/
theorem pi_Uin {l : List pg_N} {NN i nx : Nat} {vs : List rl_V} (hG : lg_G l NN) (h0r : rl_k l 0 = 0) (hi : i < l.length) (hnl : nx < l.length) (hc : nx ∈ rl_c l i) (h : pi_U l i nx vs) : pi_U l nx (nx + 1) vs := by
  obtain ⟨u1, u2, u3, u4⟩ := h
  have pp := (rl_upc' hG hi hc).2
  have hR := lg_R hG hi hc
  have kn := (lg_V hG hnl).1
  have ki := (lg_V hG hi).1
  unfold pi_U
  rw [pp]
  refine ⟨fun z => ?_, fun z => u1 z, fun z => u2 z, fun z1 z2 z3 => u4 z2 z3 (fun w => ?_)⟩
  · rw [z] at hR
    have k4 : rl_k l i = 4 := sh_k5 _ (by omega) 5 (by decide) hR rfl
    have i0 : 0 < i := by
      rcases Nat.eq_zero_or_pos i with w | w
      · rw [w] at k4; omega
      · exact w
    have p1 := (lg_par hG hi i0).1
    have hp : rl_par l i < l.length := by omega
    have hR2 := lg_Rp hG hi i0
    rw [k4] at hR2
    have k3 := sh_k4 _ (by have := (lg_V hG hp).1; omega) 4 (by decide) hR2 rfl
    have st := u4 (by omega) (by omega) (fun w => by have := (lg_n55 hG h0r hi w).2.1; omega)
    intro m hp' y cs D
    rw [show nx + 1 - nx - 1 = 0 by omega, Nat.min_zero]
    exact ⟨Nat.zero_le _, fun k v hk => absurd hk (Nat.not_lt_zero _), fun k v _ hv => st v (List.mem_of_getElem? hv)⟩
  · have k8 := (lg_n55 hG h0r hi w).2.2
    rw [sh_lf (by omega)] at hR
    cases hR
theorem rl_in1 {l : List pg_N} {A : rl_A} {i : Nat} {y : rl_B} {r : List rl_B} (hb : ¬ (1 ≤ rl_k l i ∧ rl_k l i ≤ 3)) (hA : A.1 = y :: r) : ∃ c, c ≤ 1 ∧ (rl_in l A i).2.1 = (y.1, y.2.1, y.2.2.1, y.2.2.2.1 + c, y.2.2.2.2) :: r := by
  obtain ⟨B, T⟩ := A
  have hA : B = y :: r := hA
  subst hA
  rw [rl_in_o hb]
  by_cases a : rl_k l i = 16
  · rw [if_pos a]; exact ⟨1, Nat.le_refl _, rfl⟩
  · rw [if_neg a]
    by_cases b : rl_k l i = 19
    · rw [if_pos b]; exact ⟨1, Nat.le_refl _, rfl⟩
    · rw [if_neg b]
      by_cases c : rl_k l i = 25 ∧ 2 ≤ (rl_v l i).toInt
      · rw [if_pos c]; exact ⟨1, Nat.le_refl _, rfl⟩
      · rw [if_neg c]; exact ⟨0, Nat.zero_le _, rfl⟩
theorem pv_h {y y' : rl_B} {r : List rl_B} (h : pv_B (y :: r)) (hy : pv_Y r y') : pv_B (y' :: r) := ⟨hy, h.2.1, h.2.2⟩
theorem pi_Yn {l : List pg_N} {nx nx' : Nat} {y : rl_B} (h : pi_Y l nx y) (hn : nx ≤ nx') : pi_Y l nx' y := ⟨by have := h.1; omega, h.2⟩
theorem cv_Lv {y y' : rl_B} {r : List rl_B} (h : y'.2.2.2.2.length = y.2.2.2.2.length) : (cv_L (y' :: r)).length = (cv_L (y :: r)).length := by
  show (cv_L r ++ y'.2.2.2.2.reverse.map _).length = (cv_L r ++ y.2.2.2.2.reverse.map _).length
  rw [List.length_append, List.length_append, List.length_map, List.length_map, List.length_reverse, List.length_reverse, h]
theorem pi_Es {l : List pg_N} {NN : Nat} (hG : lg_G l NN) (h0r : rl_k l 0 = 0) (hC : lg_C l) {o : Option Nat} {nx : Nat} {A : rl_A} (hI : pi_I l (o, nx, A)) (hn : nx < rl_end l o) (hf : (rl_in l A nx).1 = 0) : pi_I l (some nx, nx + 1, (rl_in l A nx).2) := by
  obtain ⟨gG, g0, gB⟩ : pi_G l o nx ∧ (o = none → nx = 0 → A.1 = []) ∧ ∀ j, o = some j → pi_B l j nx A.1 := hI
  obtain ⟨q1, q2, q3, _⟩ := pi_in hG gG hn
  refine ⟨q3, fun z => (by cases z), fun j hj => ?_⟩
  cases hj
  have hll := hG.2.2.2.1
  cases o with
  | none =>
    have hn : nx < l.length := hn
    have gG : nx = 0 ∨ nx = l.length := gG
    have e0 : nx = 0 := by omega
    subst e0
    have hA := g0 rfl rfl
    have e1 : (rl_in l A 0).2.1 = [] := by
      rw [rl_in_o (by omega), if_neg (by omega), if_neg (by omega), if_neg (by omega)]
      exact hA
    show pi_B l 0 1 (rl_in l A 0).2.1
    rw [e1]
    have c1 : cB l 1 = 0 := by
      rw [show (1 : Nat) = 0 + 1 from rfl, cB_s, if_neg (by omega)]; rfl
    refine ⟨trivial, fun y hy => absurd hy List.not_mem_nil, fun _ z hz => (by cases hz), fun z => absurd rfl z, ⟨fun z => by omega, fun z => ?_, fun z => ?_, fun _ _ _ v hv => absurd hv List.not_mem_nil⟩, c1.symm, ?_, fun z => absurd rfl z, fun j h1 h2 => ?_⟩
    · have : rl_k l 0 = 5 := z
      omega
    · have : rl_k l 0 = 5 := z
      omega
    · rw [if_neg (by omega)]
      show 32 + 0 ≤ _
      omega
    · have h1 : 0 < j := h1
      omega
  | some i =>
    obtain ⟨b1, b2, b3, b4, b5, b6, b7, b8, b9⟩ := gB i rfl
    obtain ⟨c1, c2, c3, c4⟩ : i < l.length ∧ i < nx ∧ nx ≤ i + rl_z l i ∧ (nx < i + rl_z l i → nx ∈ rl_c l i) := gG
    have hn : nx < i + rl_z l i := hn
    have nc := c4 hn
    have pp := (rl_upc' hG c1 nc).2
    have upn := rl_upc hG.1 c1 nc
    have hR := lg_R hG c1 nc
    have kn := (lg_V hG q1).1
    have ki := (lg_V hG c1).1
    have cb := cB_s l nx
    have cv := cV_s l nx
    have k6 : ¬ rl_k l i = 6 := fun z => by rw [sh_lf (Or.inl z)] at hR; cases hR
    rw [if_neg k6] at b7
    by_cases hb : 1 ≤ rl_k l nx ∧ rl_k l nx ≤ 3
    · have i0 : i = 0 := by
        have := lg_b0 hG q1 (by omega) hb
        omega
      subst i0
      rw [rl_in_b hb] at hf ⊢
      by_cases a : (rl_cur A).1 = 3
      · rw [if_pos a] at hf; exact absurd (show (10 : Nat) = 0 from hf) (by decide)
      · rw [if_neg a] at hf ⊢
        by_cases b : rl_taken A (rl_v l nx) = true
        · rw [if_pos b] at hf; exact absurd (show (11 : Nat) = 0 from hf) (by decide)
        · rw [if_neg b]
          have nt : cb_nm A.1 (rl_v l nx) = none ∧ rl_fn (rl_v l nx) = none := by
            refine ⟨Classical.not_not.mp (fun z => b (cb_nmt2.mpr (Or.inl z))), Classical.not_not.mp (fun z => b (cb_nmt2.mpr (Or.inr z)))⟩
          have vt : rl_k l nx = 1 → pv_T (rl_v l (nx + 1)) := fun z => by
            have hS := lg_S hG q1
            rw [z] at hS
            obtain ⟨uu, bb, e1s, _⟩ : ∃ u b, (rl_c l nx).map (rl_k l) = 8 :: (u ++ [b]) ∧ (∀ x ∈ u, x = 4) ∧ sh_b b := hS
            obtain ⟨e1, e2, e3, _⟩ := lg_h hG q1 e1s
            obtain ⟨gg, gg1, gg2⟩ := (lg_V hG e1).2.2.1 (Or.inr e3)
            rw [gg2]
            have : gg = 0 ∨ gg = 1 ∨ gg = 2 := by omega
            unfold pv_T
            rcases this with w | w | w <;> (rw [w]; decide)
          have cc : (if rl_k l nx = 3 then 960 else if rl_k l nx = 1 then 1 else 0) ≤ 960 := by
            by_cases w : rl_k l nx = 3
            · rw [if_pos w]; omega
            · rw [if_neg w]
              by_cases w2 : rl_k l nx = 1
              · rw [if_pos w2]; omega
              · rw [if_neg w2]; omega
          have vv : ∀ v ∈ (if rl_k l nx = 1 then [(rl_v l nx, 0, rl_v l (nx + 1), 0, -1, 0)] else ([] : List rl_V)), rl_k l nx = 1 ∧ v = (rl_v l nx, 0, rl_v l (nx + 1), 0, -1, 0) := fun v hv => by
            by_cases w : rl_k l nx = 1
            · rw [if_pos w] at hv; exact ⟨w, List.mem_singleton.mp hv⟩
            · rw [if_neg w] at hv; exact absurd hv List.not_mem_nil
          show pi_B l nx (nx + 1) ((rl_k l nx, rl_v l nx, nx, (if rl_k l nx = 3 then 960 else if rl_k l nx = 1 then 1 else 0), (if rl_k l nx = 1 then [(rl_v l nx, 0, rl_v l (nx + 1), 0, -1, 0)] else [])) :: A.1)
          refine ⟨⟨⟨hb, nt.1, nt.2, by show (if rl_k l nx = 3 then 960 else if rl_k l nx = 1 then 1 else 0) < _; omega, fun v hv => ?_, ?_⟩, b3 rfl, b1⟩, fun y hy => ?_, fun z => by omega, fun _ => ⟨(by intro w; cases w), Or.inl rfl⟩, ⟨fun z => by omega, fun z => by rw [pp] at z; omega, fun z => ?_, fun _ _ _ v hv => ?_⟩, ?_, ?_, fun _ _ => ?_, fun j h1 h2 => ?_⟩
          · obtain ⟨v1, v2⟩ := vv v hv
            rw [v2]
            exact ⟨Nat.zero_le 3, Nat.zero_le 2, fun _ => vt v1, fun z => (by cases z), Nat.le_of_ble_eq_true rfl, Or.inl rfl, fun z => absurd rfl z⟩
          · show List.Pairwise _ (if rl_k l nx = 1 then [(rl_v l nx, 0, rl_v l (nx + 1), 0, -1, 0)] else ([] : List rl_V))
            by_cases w : rl_k l nx = 1
            · rw [if_pos w]; exact List.pairwise_singleton _ _
            · rw [if_neg w]; exact List.Pairwise.nil
          · rcases List.mem_cons.mp hy with w | w
            · rw [w]
              refine ⟨by show nx < nx + 1; omega, rfl, rfl, fun _ v hv => ?_, by show (if rl_k l nx = 3 then 960 else if rl_k l nx = 1 then 1 else 0) ≤ _; omega⟩
              rw [(vv v hv).2]
            · exact pi_Yn (b2 y w) (by omega)
          · rw [pp] at z
            have : rl_k l 0 = 5 := z
            omega
          · rw [(vv v hv).2]; exact fun z => by cases z
          · rw [cb, if_pos hb, List.length_cons, b6]
          · have e : (cv_L ((rl_k l nx, rl_v l nx, nx, (if rl_k l nx = 3 then 960 else if rl_k l nx = 1 then 1 else 0), (if rl_k l nx = 1 then [(rl_v l nx, 0, rl_v l (nx + 1), 0, -1, 0)] else [])) :: A.1)).length = (cv_L A.1).length + (if rl_k l nx = 1 then 1 else 0) := by
              show (cv_L A.1 ++ (if rl_k l nx = 1 then [(rl_v l nx, 0, rl_v l (nx + 1), 0, -1, 0)] else ([] : List rl_V)).reverse.map _).length = _
              rw [List.length_append, List.length_map, List.length_reverse]
              by_cases w : rl_k l nx = 1
              · rw [if_pos w, if_pos w]; rfl
              · rw [if_neg w, if_neg w]; rfl
            rw [e, if_neg (show ¬ rl_k l nx = 6 by omega), cv]
            by_cases w : rl_k l nx = 1
            · rw [if_pos w, if_pos (Or.inl w)]; omega
            · rw [if_neg w]; omega
          · show (if rl_k l nx = 3 then 960 else if rl_k l nx = 1 then 1 else 0) ≤ _
            omega
          · have h1 : nx < j := h1
            omega
    · have i0 : i ≠ 0 := fun z => by
        rw [z, h0r] at hR
        exact hb (of_decide_eq_true hR)
      obtain ⟨hB, hnode⟩ := b4 i0
      obtain ⟨y, r, hA⟩ : ∃ y r, A.1 = y :: r := by
        cases hx : A.1 with
        | nil => exact absurd hx hB
        | cons y r => exact ⟨y, r, rfl⟩
      obtain ⟨c, hc1, hc2⟩ := rl_in1 hb hA
      show pi_B l nx (nx + 1) (rl_in l A nx).2.1
      rw [hc2]
      rw [hA] at b1 b2 b5 b6 b7 b8 b9 hnode
      have hcell : y.2.2.2.1 ≤ 4096 + nx := b8 i0 (fun w => by omega)
      have hnode : y.2.2.1 = i ∨ y.2.2.1 ∈ rl_up l i := hnode
      obtain ⟨y1, y2, y3, y4, y5, y6⟩ := b1.1
      refine ⟨pv_h b1 ⟨y1, y2, y3, by show y.2.2.2.1 + c < _; omega, y5, y6⟩, fun z hz => ?_, fun z => by omega, fun _ => ⟨(by intro w; cases w), Or.inr ?_⟩, pi_Uin hG h0r c1 q1 nc b5, ?_, ?_, fun _ _ => ?_, fun j h1 h2 h3 h4 => ?_⟩
      · rcases List.mem_cons.mp hz with w | w
        · rw [w]
          obtain ⟨z1, z2, z3, z4, z5⟩ := b2 y (List.mem_cons_self ..)
          exact ⟨by show y.2.2.1 < nx + 1; omega, z2, z3, z4, by show y.2.2.2.1 + c ≤ _; omega⟩
        · exact pi_Yn (b2 z (List.mem_cons_of_mem _ w)) (by omega)
      · show y.2.2.1 ∈ rl_up l nx
        rw [upn]
        rcases hnode with w | w
        · rw [w]; exact List.mem_cons_self ..
        · exact List.mem_cons_of_mem _ w
      · rw [cb, if_neg hb]; exact b6
      · rw [cv_Lv (y := y) (y' := (y.1, y.2.1, y.2.2.1, y.2.2.2.1 + c, y.2.2.2.2)) rfl, cv]
        by_cases w : rl_k l nx = 6
        · rw [if_pos w, if_pos (Or.inr w)]; omega
        · rw [if_neg w]; omega
      · show y.2.2.2.1 + c ≤ _
        omega
      · have h1 : y.2.2.1 < j := h1
        rw [upn] at h4
        exact b9 j h1 (by omega) (fun w => h4 (by rw [w]; exact List.mem_cons_self ..)) (fun w => h4 (List.mem_cons_of_mem _ w))
