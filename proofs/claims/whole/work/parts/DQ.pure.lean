/-! WHERE the nodes stand that take a cell as they are entered -/
theorem rl_dj {l : List pg_N} {NN p c1 c2 : Nat} (hG : lg_G l NN) (hp : p < l.length) (h1 : c1 ∈ rl_c l p) (h2 : c2 ∈ rl_c l p) (h : c1 < c2) : c1 + rl_z l c1 ≤ c2 := by
  rcases Nat.lt_or_ge c2 (c1 + rl_z l c1) with w | w
  · exfalso
    have m1 := rl_cm h1
    have m2 := rl_cm h2
    have pz := (rl_zc hG.1 hp).2
    have g := (rl_pge hG (by omega) h w).1
    have e := (rl_upc' hG hp h2).2
    omega
  · exact w
theorem sp_k1b : ∀ k, k < 37 → ∀ x, x < 37 → (!(sh_r k x) || !(decide (11 ≤ x ∧ x ≤ 21)) || decide ((11 ≤ k ∧ k ≤ 21) ∨ ((1 ≤ k ∧ k ≤ 3) ∧ x = 11))) = true := by decide +kernel
theorem sp_k1 (k : Nat) (hk : k < 37) (x : Nat) (hx : x < 37) (h : sh_r k x = true) (h1 : 11 ≤ x) (h2 : x ≤ 21) : (11 ≤ k ∧ k ≤ 21) ∨ ((1 ≤ k ∧ k ≤ 3) ∧ x = 11) := by
  have := sp_k1b k hk x hx
  rw [h, decide_eq_true (show 11 ≤ x ∧ x ≤ 21 from ⟨h1, h2⟩)] at this
  exact of_decide_eq_true this
theorem sp_k2b : ∀ k, k < 37 → ∀ x, x < 37 → (!(sh_r k x) || !(decide (22 ≤ x ∧ x ≤ 29)) || decide ((22 ≤ k ∧ k ≤ 29) ∨ ((1 ≤ k ∧ k ≤ 3) ∧ x = 22))) = true := by decide +kernel
theorem sp_k2 (k : Nat) (hk : k < 37) (x : Nat) (hx : x < 37) (h : sh_r k x = true) (h1 : 22 ≤ x) (h2 : x ≤ 29) : (22 ≤ k ∧ k ≤ 29) ∨ ((1 ≤ k ∧ k ≤ 3) ∧ x = 22) := by
  have := sp_k2b k hk x hx
  rw [h, decide_eq_true (show 22 ≤ x ∧ x ≤ 29 from ⟨h1, h2⟩)] at this
  exact of_decide_eq_true this
/-- a statement stands in its block's body, a cell of a rung in its ladder -/
theorem sp_up {l : List pg_N} {NN b : Nat} (hG : lg_G l NN) (h0r : rl_k l 0 = 0) (hb : b < l.length) (hk : 1 ≤ rl_k l b ∧ rl_k l b ≤ 3) : ∀ (n j : Nat), j ≤ n → b < j → j < b + rl_z l b → (11 ≤ rl_k l j ∧ rl_k l j ≤ 21 → ∃ c ∈ rl_c l b, c ≤ j ∧ j < c + rl_z l c ∧ rl_k l c = 11) ∧ (22 ≤ rl_k l j ∧ rl_k l j ≤ 29 → ∃ c ∈ rl_c l b, c ≤ j ∧ j < c + rl_z l c ∧ rl_k l c = 22) := by
  intro n
  induction n with
  | zero => intro j h1 h2; omega
  | succ n ih =>
    intro j h1 h2 h3
    have bz := (rl_zc hG.1 hb).2
    have jl : j < l.length := by omega
    have jz := (rl_zc hG.1 jl).1
    obtain ⟨p1, p2, p3⟩ := lg_par hG jl (by omega)
    obtain ⟨g1, g2⟩ := rl_pge hG jl h2 h3
    have hR := lg_Rp hG jl (by omega)
    have kp := (lg_V hG (show rl_par l j < l.length by omega)).1
    have kj := (lg_V hG jl).1
    have cm := rl_cm p2
    have b0 : 0 < b := by
      rcases Nat.eq_zero_or_pos b with w | w
      · rw [w, h0r] at hk; omega
      · exact w
    by_cases q : rl_par l j = b
    · rw [q] at p2 hR
      refine ⟨fun w => ?_, fun w => ?_⟩
      · rcases sp_k1 _ (by have := (lg_V hG hb).1; omega) _ (by omega) hR w.1 w.2 with v | v
        · omega
        · exact ⟨j, p2, Nat.le_refl _, by omega, v.2⟩
      · rcases sp_k2 _ (by have := (lg_V hG hb).1; omega) _ (by omega) hR w.1 w.2 with v | v
        · omega
        · exact ⟨j, p2, Nat.le_refl _, by omega, v.2⟩
    · have nb : ¬ (1 ≤ rl_k l (rl_par l j) ∧ rl_k l (rl_par l j) ≤ 3) := fun w => by
        have e := lg_b0 hG (show rl_par l j < l.length by omega) (by omega) w
        have g := (rl_pge hG (show rl_par l j < l.length by omega) (show b < rl_par l j by omega) (by omega)).1
        omega
      obtain ⟨i1, i2⟩ := ih (rl_par l j) (by omega) (by omega) (by omega)
      refine ⟨fun w => ?_, fun w => ?_⟩
      · rcases sp_k1 _ (by omega) _ (by omega) hR w.1 w.2 with v | v
        · obtain ⟨c, c1, c2, c3, c4⟩ := i1 v
          have cl : c < l.length := by have := rl_cm c1; omega
          have : j < c + rl_z l c := by
            rcases Nat.eq_or_lt_of_le c2 with u | u
            · rw [u]; exact cm.2
            · have := rl_zl hG.1 cl u c3
              omega
          exact ⟨c, c1, by omega, this, c4⟩
        · exact absurd v.1 nb
      · rcases sp_k2 _ (by omega) _ (by omega) hR w.1 w.2 with v | v
        · obtain ⟨c, c1, c2, c3, c4⟩ := i2 v
          have cl : c < l.length := by have := rl_cm c1; omega
          have : j < c + rl_z l c := by
            rcases Nat.eq_or_lt_of_le c2 with u | u
            · rw [u]; exact cm.2
            · have := rl_zl hG.1 cl u c3
              omega
          exact ⟨c, c1, by omega, this, c4⟩
        · exact absurd v.1 nb
def sp_a (l : List pg_N) (j : Nat) : Bool := sp_0 l j || sp_1 l j
theorem sp_bl {l : List pg_N} {NN b jl j : Nat} (hG : lg_G l NN) (h0r : rl_k l 0 = 0) (hb : b < l.length) (hk : 1 ≤ rl_k l b ∧ rl_k l b ≤ 3) (hjl : (rl_c l b).getLast? = some jl) (h1 : b < j) (h2 : j < b + rl_z l b) : (sp_0 l j = true → jl ≤ j ∧ rl_k l jl = 11) ∧ (sp_1 l j = true → jl ≤ j ∧ rl_k l jl = 22) := by
  obtain ⟨jl', g1, g2, g3, g4, g5⟩ := lg_bl hG hb hk
  rw [hjl] at g1
  cases g1
  obtain ⟨u1, u2⟩ := sp_up hG h0r hb hk j j (Nat.le_refl _) h1 h2
  refine ⟨fun w => ?_, fun w => ?_⟩
  · have w := of_decide_eq_true w
    obtain ⟨c, c1, c2, c3, c4⟩ := u1 (by omega)
    rcases g5 c c1 with e | e | e
    · rw [← e]; exact ⟨c2, c4⟩
    · omega
    · omega
  · have w := of_decide_eq_true w
    obtain ⟨c, c1, c2, c3, c4⟩ := u2 (by omega)
    rcases g5 c c1 with e | e | e
    · rw [← e]; exact ⟨c2, c4⟩
    · omega
    · omega
/-- none stands before the body -/
theorem sp_5 {l : List pg_N} {NN b i j : Nat} (hG : lg_G l NN) (h0r : rl_k l 0 = 0) (hb : b < l.length) (hk : 1 ≤ rl_k l b ∧ rl_k l b ≤ 3) (hi : i < l.length) (k5 : rl_k l i = 5) (hu : b ∈ rl_up l i) (h1 : b < j) (h2 : j < i + rl_z l i) : sp_a l j = false := by
  obtain ⟨jl, g1, g2, g3, g4, g5⟩ := lg_bl hG hb hk
  obtain ⟨m1, m2⟩ := rl_upm.mp hu
  obtain ⟨s1, s2, s3, s4, s5, _⟩ := lg_sec hG hi h0r k5
  obtain ⟨e1, e2⟩ := rl_pge hG hi m1 m2
  have iz := rl_zl hG.1 hb m1 m2
  have hs : rl_par l i < l.length := by omega
  have ns : rl_par l i ≠ b := fun z => by rw [z] at s5; omega
  have e3 := rl_pge hG hs (show b < rl_par l i by omega) (by have := (rl_zc hG.1 hs).1; omega)
  have kp := sh_k4 _ (by have := (lg_V hG (show rl_par l (rl_par l i) < l.length by have := (lg_par hG hs (by omega)).1; omega)).1; omega) _ (by omega) (lg_Rp hG hs (by omega)) s5
  have pl := (lg_par hG hs (by omega)).1
  have pb : rl_par l (rl_par l i) = b := by
    rcases Nat.eq_or_lt_of_le e3.1 with w | w
    · exact w.symm
    · exfalso
      have z0 := lg_b0 hG (show rl_par l (rl_par l i) < l.length by omega) (by omega) (by omega)
      have := (rl_pge hG (show rl_par l (rl_par l i) < l.length by omega) w (by
        have := (rl_zc hG.1 (show rl_par l (rl_par l i) < l.length by omega)).1
        omega)).1
      have b0 : b = 0 := by omega
      rw [b0, h0r] at hk
      omega
  have sc : rl_par l i ∈ rl_c l b := by
    have := (lg_par hG hs (by omega)).2.1
    rw [pb] at this
    exact this
  have lt : rl_par l i < jl := by
    rcases Nat.lt_or_ge (rl_par l i) jl with w | w
    · exact w
    · exfalso
      have ne : jl ≠ rl_par l i := fun z => by rw [z] at g3; omega
      have d := rl_dj hG hb g2 sc (by omega)
      have := rl_cm sc
      omega
  have d := rl_dj hG hb sc g2 lt
  have iz2 := rl_zl hG.1 hs s2 (rl_cm s4).2
  have jz : j < b + rl_z l b := by omega
  obtain ⟨q1, q2⟩ := sp_bl hG h0r hb hk g1 h1 jz
  unfold sp_a
  cases w1 : sp_0 l j with
  | true => have := (q1 w1).1; omega
  | false =>
    cases w2 : sp_1 l j with
    | true => have := (q2 w2).1; omega
    | false => rfl
/-- counts -/
theorem cn_e {p q : Nat → Bool} {s : Nat} : ∀ {n : Nat}, (∀ j, s ≤ j → j < s + n → p j = q j) → cn p s n = cn q s n
  | 0, _ => rfl
  | n + 1, h => by
    show cn p s n + _ = cn q s n + _
    rw [cn_e (n := n) (fun j h1 h2 => h j h1 (by omega)), h (s + n) (by omega) (by omega)]
theorem cn_z {p : Nat → Bool} {s : Nat} : ∀ {n : Nat}, (∀ j, s ≤ j → j < s + n → p j = false) → cn p s n = 0
  | 0, _ => rfl
  | n + 1, h => by
    show cn p s n + _ = 0
    rw [cn_z (n := n) (fun j h1 h2 => h j h1 (by omega)), h (s + n) (by omega) (by omega)]
    rfl
theorem cn_u {p : Nat → Bool} {s j : Nat} (h : s ≤ j) : cn p s (j + 1 - s) = cn p s (j - s) + (if p j = true then 1 else 0) := by
  rw [show j + 1 - s = (j - s) + 1 by omega]
  show cn p s (j - s) + (if p (s + (j - s)) = true then 1 else 0) = _
  rw [show s + (j - s) = j by omega]
