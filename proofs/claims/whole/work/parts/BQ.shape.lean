/-! WHAT MAY STAND BELOW WHAT -/
def sh_r (k x : Nat) : Bool :=
  if k = 0 then decide (1 ≤ x ∧ x ≤ 3)
  else if k = 1 then decide (x = 8 ∨ x = 4 ∨ x = 11 ∨ x = 22)
  else if k = 2 ∨ k = 3 then decide (x = 4 ∨ x = 11 ∨ x = 22)
  else if k = 4 then decide (x = 5)
  else if k = 5 then decide ((6 ≤ x ∧ x ≤ 10) ∨ x = 30 ∨ x = 31)
  else if k = 9 then decide (x = 8 ∨ x = 30 ∨ x = 31)
  else if k = 11 then decide (12 ≤ x ∧ x ≤ 21 ∧ x ≠ 14 ∧ x ≠ 17 ∧ x ≠ 18)
  else if k = 12 then decide (x = 6 ∨ (30 ≤ x ∧ x ≤ 36))
  else if k = 13 then decide (x = 14)
  else if k = 14 ∨ k = 32 ∨ k = 36 then decide (x = 6 ∨ (30 ≤ x ∧ x ≤ 36))
  else if k = 15 then decide (x = 6 ∨ (30 ≤ x ∧ x ≤ 36) ∨ x = 11)
  else if k = 16 then decide (x = 6 ∨ (30 ≤ x ∧ x ≤ 36) ∨ x = 17 ∨ x = 11)
  else if k = 17 then decide (x = 18 ∨ x = 11)
  else if k = 18 then decide (x = 30 ∨ x = 31)
  else if k = 19 then decide (x = 30 ∨ x = 31 ∨ x = 11)
  else if k = 22 then decide (x = 23)
  else if k = 23 then decide (x = 24)
  else if k = 24 then decide (25 ≤ x ∧ x ≤ 29)
  else if k = 25 then decide (x = 6 ∨ x = 33)
  else if k = 28 ∨ k = 33 then decide (x = 6)
  else if k = 34 then decide (x = 6 ∨ (30 ≤ x ∧ x ≤ 36))
  else if k = 35 then decide (x = 6 ∨ (30 ≤ x ∧ x ≤ 36))
  else false
theorem sh_ifm : ∀ (u : List Nat), sh_if u → ∀ x ∈ u, sh_E x ∨ x = 11
  | [], h => by cases h
  | [a], h => by cases h
  | [a, b], h => by
    obtain ⟨h1, h2⟩ : sh_E a ∧ b = 11 := h
    intro x hx
    simp at hx
    rcases hx with q | q
    · exact Or.inl (q ▸ h1)
    · exact Or.inr (q.trans h2)
  | [a, b, c], h => by
    obtain ⟨h1, h2, h3⟩ : sh_E a ∧ b = 11 ∧ c = 11 := h
    intro x hx
    simp at hx
    rcases hx with q | q | q
    · exact Or.inl (q ▸ h1)
    · exact Or.inr (q.trans h2)
    · exact Or.inr (q.trans h3)
  | a :: b :: c :: d :: u, h => by
    obtain ⟨h1, h2, h3⟩ : sh_E a ∧ b = 11 ∧ sh_if (c :: d :: u) := h
    intro x hx
    rcases List.mem_cons.mp hx with q | q
    · exact Or.inl (q ▸ h1)
    · rcases List.mem_cons.mp q with q | q
      · exact Or.inr (q.trans h2)
      · exact sh_ifm (c :: d :: u) h3 x q
theorem sh_in {k x : Nat} {w : List Nat} (h : sh_S k w) (hx : x ∈ w) (hk : k ≤ 36) : sh_r k x = true := by
  have cases37 : k = 0 ∨ k = 1 ∨ (k = 2 ∨ k = 3) ∨ k = 4 ∨ k = 5 ∨ k = 9 ∨ k = 11 ∨ k = 12 ∨ k = 13 ∨ (k = 14 ∨ k = 32 ∨ k = 36) ∨ k = 15 ∨ k = 16 ∨ k = 17 ∨ k = 18 ∨ k = 19 ∨ k = 22 ∨ k = 23 ∨ k = 24 ∨ k = 25 ∨ (k = 28 ∨ k = 33) ∨ k = 34 ∨ k = 35 ∨ (k = 6 ∨ k = 7 ∨ k = 8 ∨ k = 10 ∨ k = 20 ∨ k = 21 ∨ k = 26 ∨ k = 27 ∨ k = 29 ∨ k = 30 ∨ k = 31) := by omega
  rcases cases37 with q | q | q | q | q | q | q | q | q | q | q | q | q | q | q | q | q | q | q | q | q | q | q
  · subst q
    have goal : (1 ≤ x ∧ x ≤ 3) → sh_r 0 x = true := fun z => decide_eq_true z
    refine goal ?_
    clear goal
    have h : ∀ x ∈ w, 1 ≤ x ∧ x ≤ 3 := h
    have := h x hx; omega
  · subst q
    have goal : (x = 8 ∨ x = 4 ∨ x = 11 ∨ x = 22) → sh_r 1 x = true := fun z => decide_eq_true z
    refine goal ?_
    clear goal
    obtain ⟨u, b, e, h1, h2⟩ : ∃ u b, w = 8 :: (u ++ [b]) ∧ (∀ x ∈ u, x = 4) ∧ sh_b b := h
    subst e
    unfold sh_b at h2
    rcases List.mem_cons.mp hx with z | z
    · omega
    · rcases List.mem_append.mp z with z | z
      · have := h1 x z; omega
      · have := List.mem_singleton.mp z; omega
  · have goal : (x = 4 ∨ x = 11 ∨ x = 22) → sh_r k x = true := fun z => by rcases q with q | q <;> (subst q; exact decide_eq_true z)
    refine goal ?_
    clear goal
    have h : ∃ u b, w = u ++ [b] ∧ (∀ x ∈ u, x = 4) ∧ sh_b b := by rcases q with q | q <;> (subst q; exact h)
    obtain ⟨u, b, e, h1, h2⟩ := h
    subst e
    unfold sh_b at h2
    rcases List.mem_append.mp hx with z | z
    · have := h1 x z; omega
    · have := List.mem_singleton.mp z; omega
  · subst q
    have goal : (x = 5) → sh_r 4 x = true := fun z => decide_eq_true z
    refine goal ?_
    clear goal
    have h : ∀ x ∈ w, x = 5 := h
    have := h x hx; omega
  · subst q
    have goal : ((6 ≤ x ∧ x ≤ 10) ∨ x = 30 ∨ x = 31) → sh_r 5 x = true := fun z => decide_eq_true z
    refine goal ?_
    clear goal
    obtain ⟨u, p, y, i, e, h1, h2, h3, h4⟩ : ∃ u p y i, w = 6 :: (u ++ (p ++ (y :: i))) ∧ (∀ x ∈ u, x = 6) ∧ (p = [] ∨ p = [7]) ∧ (y = 8 ∨ y = 9 ∨ y = 10) ∧ (i = [] ∨ ∃ e, sh_K e ∧ i = [e]) := h
    subst e
    rcases List.mem_cons.mp hx with z | z
    · omega
    · rcases List.mem_append.mp z with z | z
      · have := h1 x z; omega
      · rcases List.mem_append.mp z with z | z
        · rcases h2 with h2 | h2
          · rw [h2] at z; exact absurd z List.not_mem_nil
          · rw [h2] at z; have := List.mem_singleton.mp z; omega
        · rcases List.mem_cons.mp z with z | z
          · omega
          · rcases h4 with h4 | ⟨e, h5, h4⟩
            · rw [h4] at z; exact absurd z List.not_mem_nil
            · rw [h4] at z; have := List.mem_singleton.mp z; unfold sh_K at h5; omega
  · subst q
    have goal : (x = 8 ∨ x = 30 ∨ x = 31) → sh_r 9 x = true := fun z => decide_eq_true z
    refine goal ?_
    clear goal
    obtain ⟨a, b, e, h1, h2⟩ : ∃ a b, w = [a, b, 8] ∧ sh_K a ∧ sh_K b := h
    subst e
    unfold sh_K at h1 h2
    simp at hx
    omega
  · subst q
    have goal : (12 ≤ x ∧ x ≤ 21 ∧ x ≠ 14 ∧ x ≠ 17 ∧ x ≠ 18) → sh_r 11 x = true := fun z => decide_eq_true z
    refine goal ?_
    clear goal
    have h : ∀ x ∈ w, sh_B x := h
    have := h x hx; unfold sh_B at this; omega
  · subst q
    have goal : (x = 6 ∨ (30 ≤ x ∧ x ≤ 36)) → sh_r 12 x = true := fun z => decide_eq_true z
    refine goal ?_
    clear goal
    obtain ⟨a, e', e, h1, h2⟩ : ∃ a e, w = [a, e] ∧ (a = 6 ∨ a = 32) ∧ sh_E e := h
    subst e
    unfold sh_E at h2
    simp at hx
    omega
  · subst q
    have goal : (x = 14) → sh_r 13 x = true := fun z => decide_eq_true z
    refine goal ?_
    clear goal
    have h : ∀ x ∈ w, x = 14 := h
    have := h x hx; omega
  · have goal : (x = 6 ∨ (30 ≤ x ∧ x ≤ 36)) → sh_r k x = true := fun z => by rcases q with q | q | q <;> (subst q; exact decide_eq_true z)
    refine goal ?_
    clear goal
    have h : ∃ e, w = [e] ∧ sh_E e := by rcases q with q | q | q <;> (subst q; exact h)
    obtain ⟨e, e1, e2⟩ := h
    subst e1
    unfold sh_E at e2
    simp at hx
    omega
  · subst q
    have goal : (x = 6 ∨ (30 ≤ x ∧ x ≤ 36) ∨ x = 11) → sh_r 15 x = true := fun z => decide_eq_true z
    refine goal ?_
    clear goal
    obtain ⟨u, i, e, h1, h2, _⟩ : ∃ u i, w = u ++ i ∧ sh_if u ∧ (i = [] ∨ i = [11]) ∧ ∃ m, u.length = 2 * m := h
    subst e
    rcases List.mem_append.mp hx with z | z
    · have := sh_ifm u h1 x z
      unfold sh_E at this; omega
    · rcases h2 with h2 | h2
      · rw [h2] at z; exact absurd z List.not_mem_nil
      · rw [h2] at z; have := List.mem_singleton.mp z; omega
  · subst q
    have goal : (x = 6 ∨ (30 ≤ x ∧ x ≤ 36) ∨ x = 17 ∨ x = 11) → sh_r 16 x = true := fun z => decide_eq_true z
    refine goal ?_
    clear goal
    obtain ⟨e', u, i, e, h1, h2, h3⟩ : ∃ e u i, w = e :: (u ++ i) ∧ sh_E e ∧ (∀ x ∈ u, x = 17) ∧ (i = [] ∨ i = [11]) := h
    subst e
    unfold sh_E at h1
    rcases List.mem_cons.mp hx with z | z
    · omega
    · rcases List.mem_append.mp z with z | z
      · have := h2 x z; omega
      · rcases h3 with h3 | h3
        · rw [h3] at z; exact absurd z List.not_mem_nil
        · rw [h3] at z; have := List.mem_singleton.mp z; omega
  · subst q
    have goal : (x = 18 ∨ x = 11) → sh_r 17 x = true := fun z => decide_eq_true z
    refine goal ?_
    clear goal
    obtain ⟨u, e, h1⟩ : ∃ u, w = 18 :: (u ++ [11]) ∧ ∀ x ∈ u, x = 18 := h
    subst e
    rcases List.mem_cons.mp hx with z | z
    · omega
    · rcases List.mem_append.mp z with z | z
      · have := h1 x z; omega
      · have := List.mem_singleton.mp z; omega
  · subst q
    have goal : (x = 30 ∨ x = 31) → sh_r 18 x = true := fun z => decide_eq_true z
    refine goal ?_
    clear goal
    have h : (∃ a, w = [a] ∧ sh_K a) ∨ ∃ a b, w = [a, b] ∧ sh_K a ∧ sh_K b := h
    rcases h with ⟨a, e, h1⟩ | ⟨a, b, e, h1, h2⟩
    · subst e; unfold sh_K at h1; simp at hx; omega
    · subst e; unfold sh_K at h1 h2; simp at hx; omega
  · subst q
    have goal : (x = 30 ∨ x = 31 ∨ x = 11) → sh_r 19 x = true := fun z => decide_eq_true z
    refine goal ?_
    clear goal
    obtain ⟨a, b, i, e, h1, h2, h3⟩ : ∃ a b i, w = a :: b :: (i ++ [11]) ∧ sh_K a ∧ sh_K b ∧ (i = [] ∨ ∃ e, sh_K e ∧ i = [e]) := h
    subst e
    unfold sh_K at h1 h2
    rcases List.mem_cons.mp hx with z | z
    · omega
    · rcases List.mem_cons.mp z with z | z
      · omega
      · rcases List.mem_append.mp z with z | z
        · rcases h3 with h3 | ⟨e, h4, h3⟩
          · rw [h3] at z; exact absurd z List.not_mem_nil
          · rw [h3] at z; have := List.mem_singleton.mp z; unfold sh_K at h4; omega
        · have := List.mem_singleton.mp z; omega
  · subst q
    have goal : (x = 23) → sh_r 22 x = true := fun z => decide_eq_true z
    refine goal ?_
    clear goal
    have h : ∀ x ∈ w, x = 23 := h
    have := h x hx; omega
  · subst q
    have goal : (x = 24) → sh_r 23 x = true := fun z => decide_eq_true z
    refine goal ?_
    clear goal
    have h : w ≠ [] ∧ ∀ x ∈ w, x = 24 := h
    have := h.2 x hx; omega
  · subst q
    have goal : (25 ≤ x ∧ x ≤ 29) → sh_r 24 x = true := fun z => decide_eq_true z
    refine goal ?_
    clear goal
    have h : w ≠ [] ∧ ∀ x ∈ w, 25 ≤ x ∧ x ≤ 29 := h
    have := h.2 x hx; omega
  · subst q
    have goal : (x = 6 ∨ x = 33) → sh_r 25 x = true := fun z => decide_eq_true z
    refine goal ?_
    clear goal
    have h : w = [6] ∨ w = [33] := h
    rcases h with h | h <;> (rw [h] at hx; have := List.mem_singleton.mp hx; omega)
  · have goal : (x = 6) → sh_r k x = true := fun z => by rcases q with q | q <;> (subst q; exact decide_eq_true z)
    refine goal ?_
    clear goal
    have h : w = [6] := by rcases q with q | q <;> (subst q; exact h)
    rw [h] at hx; have := List.mem_singleton.mp hx; omega
  · subst q
    have goal : (x = 6 ∨ (30 ≤ x ∧ x ≤ 36)) → sh_r 34 x = true := fun z => decide_eq_true z
    refine goal ?_
    clear goal
    have h : ∀ x ∈ w, sh_E x := h
    have := h x hx; unfold sh_E at this; omega
  · subst q
    have goal : (x = 6 ∨ (30 ≤ x ∧ x ≤ 36)) → sh_r 35 x = true := fun z => decide_eq_true z
    refine goal ?_
    clear goal
    obtain ⟨a, b, e, h1, h2⟩ : ∃ a b, w = [a, b] ∧ sh_E a ∧ sh_E b := h
    subst e
    unfold sh_E at h1 h2
    simp at hx
    omega
  · have h : w = [] := by rcases q with q | q | q | q | q | q | q | q | q | q | q <;> (subst q; exact h)
    rw [h] at hx; exact absurd hx List.not_mem_nil
/-- a child's kind and its parent's -/
theorem lg_R {l : List pg_N} {NN p c : Nat} (hG : lg_G l NN) (hp : p < l.length) (h : c ∈ rl_c l p) : sh_r (rl_k l p) (rl_k l c) = true := sh_in (lg_S hG hp) (List.mem_map_of_mem h) (lg_V hG hp).1
theorem lg_Rp {l : List pg_N} {NN c : Nat} (hG : lg_G l NN) (hc : c < l.length) (h0 : 0 < c) : sh_r (rl_k l (rl_par l c)) (rl_k l c) = true := by
  obtain ⟨h1, h2, _⟩ := lg_par hG hc h0
  exact lg_R hG (by omega) h2
theorem sh_k14 : ∀ k, k < 37 → ∀ x, x < 37 → sh_r k x = true → x = 14 → k = 13 := by decide +kernel
theorem sh_k7 : ∀ k, k < 37 → ∀ x, x < 37 → sh_r k x = true → x = 7 → k = 5 := by decide +kernel
theorem sh_k5 : ∀ k, k < 37 → ∀ x, x < 37 → sh_r k x = true → x = 5 → k = 4 := by decide +kernel
theorem sh_k4 : ∀ k, k < 37 → ∀ x, x < 37 → sh_r k x = true → x = 4 → k = 1 ∨ k = 2 ∨ k = 3 := by decide +kernel
theorem sh_k24 : ∀ k, k < 37 → ∀ x, x < 37 → sh_r k x = true → x = 24 → k = 23 := by decide +kernel
theorem sh_kc : ∀ k, k < 37 → ∀ x, x < 37 → sh_r k x = true → 25 ≤ x → x ≤ 29 → k = 24 := by decide +kernel
theorem sh_kb : ∀ k, k < 37 → ∀ x, x < 37 → sh_r k x = true → 1 ≤ x → x ≤ 3 → k = 0 := by decide +kernel
theorem sh_ky : ∀ k, k < 37 → ∀ x, x < 37 → sh_r k x = true → x = 9 ∨ x = 10 → k = 5 := by decide +kernel
theorem sh_k0 : ∀ k, k < 37 → ∀ x, x < 37 → sh_r k x = true → x ≠ 0 := by decide +kernel
theorem sh_kd5 {x : Nat} (h : sh_r 5 x = true) : (6 ≤ x ∧ x ≤ 10) ∨ x = 30 ∨ x = 31 := of_decide_eq_true h
theorem sh_kd9 : ∀ k, k < 37 → ∀ x, x < 37 → sh_r k x = true → k = 9 → x = 8 ∨ x = 30 ∨ x = 31 := by decide +kernel
theorem sh_k8 : ∀ k, k < 37 → ∀ x, x < 37 → sh_r k x = true → x = 8 → k = 1 ∨ k = 5 ∨ k = 9 := by decide +kernel
theorem sh_k23 : ∀ k, k < 37 → ∀ x, x < 37 → sh_r k x = true → x = 23 → k = 22 := by decide +kernel
theorem sh_k22 : ∀ k, k < 37 → ∀ x, x < 37 → sh_r k x = true → x = 22 → k = 1 ∨ k = 2 ∨ k = 3 := by decide +kernel
theorem sh_k18 : ∀ k, k < 37 → ∀ x, x < 37 → sh_r k x = true → x = 18 → k = 17 := by decide +kernel
theorem sh_k17 : ∀ k, k < 37 → ∀ x, x < 37 → sh_r k x = true → x = 17 → k = 16 := by decide +kernel

