/-! THE WALK'S INVARIANT: what it gives as a node is left -/
/-- where a child of a declaration stands -/
theorem lg_Dc {l : List pg_N} {i m y c : Nat} {hp cs : Bool} (D : lg_D l i m hp y cs) (h : c ∈ rl_c l i) : (i < c ∧ c ≤ i + m ∧ rl_k l c = 6) ∨ (c = i + m + 1 ∧ hp = true ∧ rl_k l c = 7) ∨ (c = y ∧ (rl_k l c = 8 ∨ rl_k l c = 9 ∨ rl_k l c = 10)) ∨ (c = y + rl_z l y ∧ cs = true ∧ (rl_k l c = 30 ∨ rl_k l c = 31)) := by
  obtain ⟨d1, d2, d3, d4, d5, d6, d7, d8, d9⟩ := D
  rw [d9] at h
  rcases List.mem_append.mp h with w | w
  · have := List.mem_range'_1.mp w
    exact Or.inl ⟨by omega, by omega, d2 c (by omega) (by omega)⟩
  · rcases List.mem_append.mp w with w | w
    · cases hp with
      | true =>
        have w : c ∈ [i + m + 1] := w
        have := List.mem_singleton.mp w
        exact Or.inr (Or.inl ⟨this, rfl, this ▸ d3 rfl⟩)
      | false => exact absurd w List.not_mem_nil
    · rcases List.mem_cons.mp w with w | w
      · exact Or.inr (Or.inr (Or.inl ⟨w, w ▸ d5⟩))
      · cases cs with
        | true =>
          have w : c ∈ [y + rl_z l y] := w
          have := List.mem_singleton.mp w
          exact Or.inr (Or.inr (Or.inr ⟨this, rfl, this ▸ d8 rfl⟩))
        | false => exact absurd w List.not_mem_nil
theorem pi_Lc {l : List pg_N} {NN i nx : Nat} {A : rl_A} (hG : lg_G l NN) (h0r : rl_k l 0 = 0) (hC : lg_C l) (hI : pi_I l (some i, nx, A)) (hn : ¬ nx < i + rl_z l i) (i0 : i ≠ 0) : cx_L l A i := by
  obtain ⟨gG, _, gB⟩ : pi_G l (some i) nx ∧ ((some i : Option Nat) = none → nx = 0 → A.1 = []) ∧ ∀ j, some i = some j → pi_B l j nx A.1 := hI
  obtain ⟨b1, b2, b3, b4, b5, b6, b7, b8, b9⟩ := gB i rfl
  obtain ⟨q1, q2, q3, q4, q5, q6⟩ := pi_out hG gG hn
  obtain ⟨hB, hnode⟩ := b4 i0
  obtain ⟨u1, u2, u3, u4⟩ := b5
  have kl := (lg_V hG q1).1
  have iz := (rl_zc hG.1 q1).2
  obtain ⟨p1, p2, p3⟩ := lg_par hG q1 (by omega)
  have hp : rl_par l i < l.length := by omega
  have hll := hG.2.2.2.1
  have mv := cV_m l nx (l.length - nx)
  have hnl : nx ≤ l.length := by omega
  rw [show nx + (l.length - nx) = l.length by omega] at mv
  have n5 : rl_k l i ≠ 5 → ¬ (6 ≤ rl_k l i ∧ rl_k l i ≤ 10) → rl_k l i ≠ 30 → rl_k l i ≠ 31 → rl_setl A := fun z1 z2 z3 z4 => u4 z1 (fun z => by have := (lg_n5 hG h0r q1 z).2; omega) (fun z => by have := (lg_n55 hG h0r q1 z).2.2; omega)
  refine ⟨b1, hB, fun z => n5 (by omega) (by omega) (by omega) (by omega), fun z1 z2 z3 => u4 (by omega) z2 (fun z => by have := (lg_n55 hG h0r q1 z).2.2; omega), fun z1 z2 => ?_, fun z => ?_, fun z m hp' y cs D => ?_, fun b y hb hy => ?_⟩
  · rw [if_pos z1] at b7
    have := hC.2
    have b7 : (cv_L A.1).length + 1 ≤ 32 + cV l nx := b7
    omega
  · have hR := lg_Rp hG q1 (by omega)
    rw [z] at hR
    have k5 : rl_k l (rl_par l i) = 5 := sh_k7 _ (by have := (lg_V hG hp).1; omega) 7 (by decide) hR rfl
    obtain ⟨m, hp', y, cs, D⟩ := lg_5 hG hp k5
    obtain ⟨v1, v2, v3⟩ := u2 k5 m hp' y cs D
    have ei : i = rl_par l i + m + 1 := by
      rcases lg_Dc D p2 with w | w | w | w
      · omega
      · exact w.1
      · omega
      · omega
    have mm : min m (i - rl_par l i - 1) = m := by omega
    rw [mm] at v1 v2 v3
    have m1 := D.1
    have hl0 : 0 < (rl_hd A.1).2.2.2.2.length := by omega
    obtain ⟨a, t, hat⟩ : ∃ a t, (rl_hd A.1).2.2.2.2 = a :: t := List.exists_cons_of_length_pos hl0
    have e0 : (rl_hd A.1).2.2.2.2[0]? = some a := by rw [hat]; rfl
    obtain ⟨w1, w2, w3⟩ := v2 0 _ (by omega) e0
    rw [if_neg (by omega)] at w3
    exact ⟨a, t, hat, w1, w3⟩
  · obtain ⟨v1, v2, v3⟩ := u1 z m hp' y cs D
    have D' := D
    obtain ⟨d1, d2, d3, d4, d5, d6, d7, d8, d9⟩ := D
    have yz := (rl_zc hG.1 d6).1
    have hyn : i + m + 1 < nx ∧ y < nx ∧ i < y := by
      have h1 : y ≤ i + m + 2 ∧ i + m + 1 ≤ y := by cases hp' <;> simp at d4 <;> omega
      have h2 : y + rl_z l y ≤ i + rl_z l i := by cases cs <;> simp at d7 <;> omega
      have h3 : hp' = true → y = i + m + 2 := fun w => by rw [w] at d4; exact d4
      cases hp' with
      | true => have := h3 rfl; omega
      | false =>
        have : y = i + m + 1 := d4
        omega
    have mm : min m (nx - i - 1) = m := by omega
    rw [mm] at v1 v2 v3
    have nl : (rl_hd A.1).2.2.1 ≤ i := by
      rcases hnode with w | w
      · omega
      · have := rl_upl w; omega
    have f9 := b9 y (by show (rl_hd A.1).2.2.1 < y; omega) hyn.2.1 (by omega) (fun w => by have := rl_upl w; omega)
    have zc := pi_zz (B := A.1) d5 f9.1 (fun q hq => (b2 q hq).2.2.2.2)
    have hcell : (rl_hd A.1).2.2.2.1 ≤ 4096 + nx := b8 i0 (fun w => by
      have k := (b2 _ (rl_hdm hB)).2.1
      have kY := (pv_blk b1 (rl_blkh hB))
      obtain ⟨r, _, hY⟩ := kY
      have := hY.1
      have w1 : i = (rl_hd A.1).2.2.1 := w.1
      have k : rl_k l (rl_hd A.1).2.2.1 = (rl_hd A.1).1 := k
      rw [← w1, z] at k
      omega)
    refine ⟨v1, fun k v hk hv => ?_, fun k v hk hv => (v2 k v hk hv).2.1, f9.1, f9.2, ?_⟩
    · obtain ⟨w1, w2, w3⟩ := v2 k v hk hv
      refine ⟨w1, w3.trans ?_⟩
      unfold rl_dsp
      cases hp' with
      | true => rw [if_pos ⟨rfl, hyn.1⟩]; rfl
      | false => rw [if_neg (by simp)]; rfl
    · have cl := pi_cvl hB
      have c2 := hC.2
      have lv : (rl_hd A.1).2.2.2.2.length ≤ 4096 := by
        have b7 : (cv_L A.1).length + (if rl_k l i = 6 then 1 else 0) ≤ 32 + cV l nx := b7
        omega
      have hm : m ≤ 4096 := by omega
      have zc2 : rl_zz l A.1 y ≤ 20638 := by omega
      have := Nat.mul_le_mul hm zc2
      have hcell : (rl_cur A).2.2.2.1 ≤ 4096 + nx := hcell
      omega
  · obtain ⟨r, _, hY⟩ := pv_blk b1 hb
    have ym := List.mem_reverse.mp (List.mem_of_getElem? hb)
    obtain ⟨y1, y2, _⟩ := b2 y ym
    have y1 : y.2.2.1 < nx := y1
    have hyl : y.2.2.1 < l.length := by omega
    have hS := lg_S hG hyl
    rw [y2, hy] at hS
    obtain ⟨uu, bb, e1s, _⟩ : ∃ u b, (rl_c l y.2.2.1).map (rl_k l) = 8 :: (u ++ [b]) ∧ (∀ x ∈ u, x = 4) ∧ sh_b b := hS
    obtain ⟨e1, e2, e3, _⟩ := lg_h hG hyl e1s
    obtain ⟨gg, gg1, gg2⟩ := (lg_V hG e1).2.2.1 (Or.inr e3)
    rw [gg2]
    exact hp_ne (by omega)
theorem pi_L0 {l : List pg_N} {nx : Nat} {A : rl_A} (hll : l.length ≤ 16386) (hC : lg_C l) (hI : pi_I l (some 0, nx, A)) (hn : nx ≤ l.length) : pv_B A.1 ∧ rl_all A.1 < 2 ^ 30 := by
  obtain ⟨_, _, gB⟩ : pi_G l (some 0) nx ∧ ((some 0 : Option Nat) = none → nx = 0 → A.1 = []) ∧ ∀ j, some 0 = some j → pi_B l j nx A.1 := hI
  obtain ⟨b1, b2, b3, b4, b5, b6, b7, b8, b9⟩ := gB 0 rfl
  refine ⟨b1, ?_⟩
  have cm := cB_m l nx (l.length - nx)
  rw [show nx + (l.length - nx) = l.length by omega] at cm
  have c1 := hC.1
  have b6 : A.1.length = cB l nx := b6
  have hs : ∀ (B : List rl_B), (∀ y ∈ B, y.2.2.2.1 ≤ 20638) → ((B.filter (fun b => decide (b.1 = 1))).map (fun b => b.2.2.2.1)).sum ≤ B.length * 20638 := by
    intro B
    induction B with
    | nil => intro _; exact Nat.le_refl _
    | cons y r ih =>
      intro h
      have i1 := ih (fun z hz => h z (List.mem_cons_of_mem _ hz))
      have i2 := h y (List.mem_cons_self ..)
      rw [List.length_cons, Nat.succ_mul]
      by_cases q : y.1 = 1
      · rw [List.filter_cons_of_pos (by simpa using q), List.map_cons, List.sum_cons]; omega
      · rw [List.filter_cons_of_neg (by simpa using q)]; exact Nat.le_trans i1 (Nat.le_add_right _ _)
  have hh : ∀ y ∈ A.1, y.2.2.2.1 ≤ 20638 := fun y hy => by have := (b2 y hy).2.2.2.2; omega
  have h1 := hs A.1 hh
  have h2 : (A.1.headD (0, -1, 0, 0, [])).2.2.2.1 ≤ 20638 := by
    by_cases hB : A.1 = []
    · rw [hB]; show 0 ≤ _; omega
    · exact hh _ (rl_hdm hB)
  have h3 : A.1.length * 20638 ≤ 409 * 20638 := Nat.mul_le_mul_right _ (by omega)
  unfold rl_all
  omega
