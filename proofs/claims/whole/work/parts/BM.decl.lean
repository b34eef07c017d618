/-! A DECLARATION: its parts -/
theorem rl_rw6 {l : List pg_N} {NN e : Nat} (hG : lg_G l NN) (he : e ≤ l.length) : ∀ (u w : List Nat) (s : Nat), (∀ x ∈ u, x = 6) → rl_cl l s e → s ≤ e → (rl_row l s e).map (rl_k l) = u ++ w → rl_row l s e = List.range' s u.length ++ rl_row l (s + u.length) e ∧ (rl_row l (s + u.length) e).map (rl_k l) = w ∧ (∀ j, s ≤ j → j < s + u.length → rl_k l j = 6) ∧ s + u.length ≤ e ∧ rl_cl l (s + u.length) e
  | [], w, s, _, hc, hs, h => ⟨rfl, h, fun j h1 h2 => by simp at h2; omega, hs, hc⟩
  | x :: u, w, s, hu, hc, hs, h => by
    obtain ⟨a1, a2, a3, a4, a5, a6, a7⟩ := rl_rwc he hc h
    have k6 : rl_k l s = 6 := a2.trans (hu x (List.mem_cons_self ..))
    have z1 : rl_z l s = 1 := lg_leaf hG (by omega) (Or.inl k6)
    rw [z1] at a3 a4 a5 a6 a7
    obtain ⟨b1, b2, b3, b4, b5⟩ := rl_rw6 hG he u w (s + 1) (fun y hy => hu y (List.mem_cons_of_mem _ hy)) a7 a5 a4
    have e1 : s + (x :: u).length = s + 1 + u.length := by rw [List.length_cons]; omega
    rw [e1]
    refine ⟨?_, b2, fun j h1 h2 => ?_, b4, b5⟩
    · rw [a3, b1, List.length_cons, List.range'_succ, List.cons_append]
    · by_cases q : j = s
      · rw [q]; exact k6
      · exact b3 j (by omega) h2
/-- a declaration: names, place, type, constant -/
def lg_D (l : List pg_N) (i m : Nat) (hp : Bool) (y : Nat) (cs : Bool) : Prop := 1 ≤ m ∧ (∀ j, i < j → j ≤ i + m → rl_k l j = 6) ∧ (hp = true → rl_k l (i + m + 1) = 7) ∧ y = i + m + (if hp then 2 else 1) ∧ (rl_k l y = 8 ∨ rl_k l y = 9 ∨ rl_k l y = 10) ∧ y < l.length ∧ y + rl_z l y + (if cs then 1 else 0) = i + rl_z l i ∧ (cs = true → rl_k l (y + rl_z l y) = 30 ∨ rl_k l (y + rl_z l y) = 31) ∧ rl_c l i = List.range' (i + 1) m ++ ((if hp then [i + m + 1] else []) ++ (y :: (if cs then [y + rl_z l y] else [])))
theorem lg_5 {l : List pg_N} {NN i : Nat} (hG : lg_G l NN) (hi : i < l.length) (hk : rl_k l i = 5) : ∃ m hp y cs, lg_D l i m hp y cs := by
  obtain ⟨z1, z2, z3⟩ := lg_cl hG hi
  have h := lg_S hG hi
  rw [hk] at h
  obtain ⟨u, p, y, c, e, hu, hp, hy, hc⟩ : ∃ u p y i', (rl_c l i).map (rl_k l) = 6 :: (u ++ (p ++ (y :: i'))) ∧ (∀ x ∈ u, x = 6) ∧ (p = [] ∨ p = [7]) ∧ (y = 8 ∨ y = 9 ∨ y = 10) ∧ (i' = [] ∨ ∃ e, sh_K e ∧ i' = [e]) := h
  obtain ⟨a1, a2, a3, a4, a5⟩ := rl_rw6 hG z1 (6 :: u) (p ++ (y :: c)) (i + 1) (fun x hx => by rcases List.mem_cons.mp hx with q | q; exact q; exact hu x q) z3 (by omega) (by rw [← rl_crow, e]; rfl)
  generalize em : (6 :: u).length = m at *
  have m1 : 1 ≤ m := by rw [← em, List.length_cons]; omega
  rw [← rl_crow] at a1
  have fin : ∀ (Y : Nat) (hp' : Bool), rl_cl l Y (i + rl_z l i) → Y ≤ i + rl_z l i → (rl_row l Y (i + rl_z l i)).map (rl_k l) = y :: c → (hp' = true → rl_k l (i + m + 1) = 7) → Y = i + m + (if hp' then 2 else 1) → rl_c l i = List.range' (i + 1) m ++ ((if hp' then [i + m + 1] else []) ++ rl_row l Y (i + rl_z l i)) → ∃ m hp y cs, lg_D l i m hp y cs := by
    intro Y hp' h1 h2 h3 h4 h5 h6
    obtain ⟨b1, b2, b3, b4, b5, b6, b7⟩ := rl_rwc z1 h1 h3
    rcases hc with hc | ⟨ec, hec, hc⟩
    · rw [hc] at b4
      have b8 := rl_rw0 z1 b7 b4 b5
      refine ⟨m, hp', Y, false, m1, fun j j1 j2 => a3 j (by omega) (by omega), h4, h5, by rw [b2]; exact hy, by omega, ?_, (fun z => by cases z), ?_⟩
      · rw [if_neg (by decide)]; exact b8
      · rw [h6, b3, List.map_eq_nil_iff.mp b4]; rfl
    · rw [hc] at b4
      obtain ⟨c1, c2, c3, c4, c5, c6, c7⟩ := rl_rwc z1 b7 b4
      have c8 := rl_rw0 z1 c7 c4 c5
      unfold sh_K at hec
      have zc : rl_z l (Y + rl_z l Y) = 1 := lg_leaf hG (by omega) (by omega)
      refine ⟨m, hp', Y, true, m1, fun j j1 j2 => a3 j (by omega) (by omega), h4, h5, by rw [b2]; exact hy, by omega, ?_, fun _ => by omega, ?_⟩
      · rw [if_pos rfl]; omega
      · rw [h6, b3, c3, List.map_eq_nil_iff.mp c4]; rfl
  rcases hp with hp | hp
  · rw [hp] at a2
    exact fin (i + 1 + m) false a5 a4 a2 (fun z => by cases z) (by rw [if_neg (by decide)]; omega) (by rw [if_neg (by decide)]; exact a1)
  · rw [hp] at a2
    obtain ⟨b1, b2, b3, b4, b5, b6, b7⟩ := rl_rwc z1 a5 a2
    have zc : rl_z l (i + 1 + m) = 1 := lg_leaf hG (by omega) (by omega)
    rw [zc] at b3 b4 b5 b6 b7
    refine fin (i + 1 + m + 1) true b7 b5 b4 (fun _ => by rw [show i + m + 1 = i + 1 + m by omega]; exact b2) (by rw [if_pos rfl]; omega) ?_
    rw [a1, b3, if_pos rfl, show i + m + 1 = i + 1 + m by omega]
    rfl
/-- what a declaration's rule says, with its parts -/
theorem rl_tw6 {l : List pg_N} {w : List Nat} : ∀ (m s : Nat), (∀ j, s ≤ j → j < s + m → rl_k l j = 6) → (∀ x, w.head? = some x → ¬ rl_k l x = 6) → ((List.range' s m ++ w).takeWhile (fun c => rl_k l c == 6)) = List.range' s m
  | 0, s, _, hw => by
    cases w with
    | nil => rfl
    | cons x w =>
      show List.takeWhile _ (x :: w) = []
      rw [List.takeWhile_cons_of_neg]
      intro z
      exact hw x rfl (eq_of_beq z)
  | m + 1, s, h, hw => by
    rw [List.range'_succ, List.cons_append, List.takeWhile_cons_of_pos (p := fun c => rl_k l c == 6) (beq_iff_eq.mpr (h s (Nat.le_refl _) (by omega))), rl_tw6 m (s + 1) (fun j h1 h2 => h j (by omega) (by omega)) hw]
def rl_dt (l : List pg_N) (A : rl_A) (y : Nat) : Int32 := if rl_k l y = 10 then nI ((rl_inst A.1 (rl_v l y)).getD 0) else rl_st l y
def rl_dsp (l : List pg_N) (i m : Nat) (hp : Bool) : Int32 := if hp then rl_v l (i + m + 1) else -1
theorem rl_decl_u {l : List pg_N} {A : rl_A} {i m y : Nat} {hp cs : Bool} (D : lg_D l i m hp y cs) : rl_decl l A i =
    if (rl_v l (rl_par l i)).toNatClampNeg ≠ 0 ∧ rl_k l y ≠ 8 then (43, A)
    else if hp = true ∧ (rl_k l y ≠ 8 ∨ rl_dt l A y ≠ (if rl_area (rl_dsp l i m hp) < 3 then 0 else 1)) then (15, A)
    else if cs = true ∧ (rl_k l y = 10 ∨ (hp && decide (rl_area (rl_dsp l i m hp) % 3 = 0)) = true ∨ rl_bad (rl_k l (y + rl_z l y)) (rl_v l (y + rl_z l y)) (rl_dt l A y) = true) then (18, A)
    else if 4096 < (if hp then (rl_cur A).2.2.2.1 else (rl_cur A).2.2.2.1 + m * rl_zz l A.1 y) then (19, A)
    else (0, ((rl_cur A).1, (rl_cur A).2.1, (rl_cur A).2.2.1, (if hp then (rl_cur A).2.2.2.1 else (rl_cur A).2.2.2.1 + m * rl_zz l A.1 y), rl_settle (rl_k l y - 8) (rl_dt l A y) (rl_dsp l i m hp) (rl_cur A).2.2.2.1 (rl_zz l A.1 y) m (rl_cur A).2.2.2.2) :: A.1.tail, A.2.1, (fun c => if i < c ∧ c ≤ i + m then nI (if hp then rl_img (rl_dsp l i m hp) else (rl_cur A).2.2.2.1 + (c - i - 1) * rl_zz l A.1 y) else A.2.2.1 c), A.2.2.2) := by
  obtain ⟨d1, d2, d3, d4, d5, d6, d7, d8, d9⟩ := D
  have tw : ((rl_c l i).takeWhile (fun c => rl_k l c == 6)).length = m := by
    rw [d9, rl_tw6 m (i + 1) (fun j h1 h2 => d2 j (by omega) (by omega)), List.length_range']
    intro x hx
    cases hp with
    | true => cases hx; rw [d3 rfl]; decide
    | false => cases hx; omega
  have gd : ∀ k, (rl_c l i).getD (m + k) 0 = ((if hp then [i + m + 1] else []) ++ (y :: (if cs then [y + rl_z l y] else []))).getD k 0 := fun k => by
    rw [d9, List.getD_eq_getElem?_getD, List.getElem?_append_right (by rw [List.length_range']; omega), List.length_range', Nat.add_sub_cancel_left, ← List.getD_eq_getElem?_getD]
  have ln : (rl_c l i).length = m + ((if hp then 1 else 0) + (1 + (if cs then 1 else 0))) := by
    rw [d9, List.length_append, List.length_range', List.length_append, List.length_cons]
    cases hp <;> cases cs <;> rfl
  have s8 : (rl_k l y - 8 = 0 ↔ rl_k l y = 8) ∧ (rl_k l y - 8 = 1 ↔ rl_k l y = 9) ∧ (rl_k l y - 8 = 2 ↔ rl_k l y = 10) := by omega
  have tt : (if rl_k l y - 8 = 0 then rl_v l y else if rl_k l y - 8 = 1 then rl_v l (y + 3) else nI ((rl_inst A.1 (rl_v l y)).getD 0)) = rl_dt l A y := by
    unfold rl_dt rl_st
    rcases d5 with q | q | q <;> (rw [q]; rfl)
  have zz : (if rl_k l y - 8 = 0 then 1 else if rl_k l y - 8 = 1 then (rl_many l y).toNat else if (rl_inst A.1 (rl_v l y)).getD 0 < 9 then rl_ssz ((rl_inst A.1 (rl_v l y)).getD 0) else ((rl_blk A.1 ((rl_inst A.1 (rl_v l y)).getD 0 - 9)).getD (0, -1, 0, 0, [])).2.2.2.1) = rl_zz l A.1 y := by
    unfold rl_zz
    rcases d5 with q | q | q <;> (rw [q]; rfl)
  unfold rl_decl
  dsimp only
  rw [tw]
  have g0 := gd 0
  have g1 := gd 1
  have g2 := gd 2
  rw [Nat.add_zero] at g0
  cases hp with
  | true =>
    have k7 := d3 rfl
    have h7 : (rl_k l ((rl_c l i).getD m 0) == 7) = true := by rw [g0]; exact beq_iff_eq.mpr k7
    have hv : rl_v l ((rl_c l i).getD m 0) = rl_dsp l i m true := by rw [g0]; rfl
    simp only [h7, if_true, hv]
    rw [show (rl_c l i).getD (m + 1) 0 = y from g1]
    simp only [tt, zz]
    have c2 : (m + 1 + 1 < (rl_c l i).length) = (cs = true) := by
      rw [ln]; cases cs <;> simp
    have c3 : cs = true → (rl_c l i).getD (m + 1 + 1) 0 = y + rl_z l y := fun z => by rw [z] at g2; exact g2
    cases cs with
    | true => simp only [c2, c3 rfl, s8.1, s8.2.2, ne_eq]
    | false => simp only [c2, s8.1, s8.2.2, ne_eq, Bool.false_eq_true, false_and]
  | false =>
    have ky : (rl_k l ((rl_c l i).getD m 0) == 7) = false := by rw [g0]; exact beq_eq_false_iff_ne.mpr (by show rl_k l y ≠ 7; omega)
    simp only [ky, if_false, Bool.false_eq_true]
    rw [show (rl_c l i).getD m 0 = y from g0]
    simp only [tt, zz]
    have c2 : (m + 1 < (rl_c l i).length) = (cs = true) := by
      rw [ln]; cases cs <;> simp
    have c3 : cs = true → (rl_c l i).getD (m + 1) 0 = y + rl_z l y := fun z => by rw [z] at g1; exact g1
    cases cs with
    | true => simp only [c2, c3 rfl, s8.1, s8.2.2, ne_eq, rl_dsp, if_false, Bool.false_eq_true, false_and]
    | false => simp only [c2, s8.1, s8.2.2, ne_eq, rl_dsp, if_false, Bool.false_eq_true, false_and]
