/-! TOKENS: what is read from a place on -/
def lx_bl (c : Int) : Bool := decide (c = 9 ∨ c = 10 ∨ c = 13 ∨ c = 32)
def lx_cmF (t : Nat → Nat) (M : Nat) : Nat → Nat → Option Nat
  | 0, _ => none
  | n + 1, i => if i + 1 < M then (if t i = 42 ∧ t (i + 1) = 41 then some (i + 2) else lx_cmF t M n (i + 1)) else none
/-- behind the end of a comment, sought from i on -/
def lx_cm (t : Nat → Nat) (M i : Nat) : Option Nat := lx_cmF t M (M - i) i
theorem lx_cm_u (t : Nat → Nat) (M i : Nat) : lx_cm t M i = if i + 1 < M then (if t i = 42 ∧ t (i + 1) = 41 then some (i + 2) else lx_cm t M (i + 1)) else none := by
  by_cases h : i < M
  · rw [lx_cm, show M - i = (M - (i + 1)) + 1 by omega]; rfl
  · rw [lx_cm, show M - i = 0 by omega, if_neg (by omega)]; rfl
theorem lx_cm_b {t : Nat → Nat} {M : Nat} : ∀ {n i q : Nat}, lx_cmF t M n i = some q → i + 2 ≤ q ∧ q ≤ M
  | 0, _, _, h => by cases h
  | n + 1, i, q, h => by
    unfold lx_cmF at h
    by_cases h1 : i + 1 < M
    · rw [if_pos h1] at h
      by_cases h2 : t i = 42 ∧ t (i + 1) = 41
      · rw [if_pos h2] at h
        cases h
        omega
      · rw [if_neg h2] at h
        have := lx_cm_b h
        omega
    · rw [if_neg h1] at h
      cases h
def lx_skF (t : Nat → Nat) (M : Nat) : Nat → Nat → Nat × Bool
  | 0, p => (p, true)
  | n + 1, p => if lx_bl (lx_i t M p) then lx_skF t M n (p + 1) else if lx_i t M p = 40 ∧ lx_i t M (p + 1) = 42 then (match lx_cm t M (p + 2) with | some q => lx_skF t M n q | none => (p, false)) else (p, true)
/-- behind blanks and comments; false: a comment stays open -/
def lx_sk (t : Nat → Nat) (M p : Nat) : Nat × Bool := lx_skF t M (M + 1 - p) p
theorem lx_i_out {t : Nat → Nat} {M p : Nat} (h : M ≤ p) : lx_i t M p = -1 := if_neg (by omega)
theorem lx_i_in {t : Nat → Nat} {M p : Nat} (h : ¬ lx_i t M p = -1) : p < M := Nat.not_le.mp (fun z => h (lx_i_out z))
theorem lx_sk_s {t : Nat → Nat} {M : Nat} : ∀ (n m p : Nat), M + 1 ≤ p + n → M + 1 ≤ p + m → lx_skF t M n p = lx_skF t M m p
  | 0, 0, _, _, _ => rfl
  | 0, m + 1, p, h, _ => by
    unfold lx_skF
    rw [lx_i_out (by omega), show lx_bl (-1) = false from rfl, if_neg (by decide), if_neg (by omega)]
  | n + 1, 0, p, _, h => by
    unfold lx_skF
    rw [lx_i_out (by omega), show lx_bl (-1) = false from rfl, if_neg (by decide), if_neg (by omega)]
  | n + 1, m + 1, p, h1, h2 => by
    unfold lx_skF
    rw [lx_sk_s n m (p + 1) (by omega) (by omega)]
    cases hc : lx_cm t M (p + 2) with
    | none => rfl
    | some q =>
      have := lx_cm_b hc
      have e := lx_sk_s (t := t) (M := M) n m q (by omega) (by omega)
      simp only [e]
theorem lx_sk_u (t : Nat → Nat) (M p : Nat) : lx_sk t M p = if lx_bl (lx_i t M p) then lx_sk t M (p + 1) else if lx_i t M p = 40 ∧ lx_i t M (p + 1) = 42 then (match lx_cm t M (p + 2) with | some q => lx_sk t M q | none => (p, false)) else (p, true) := by
  rw [lx_sk, lx_sk_s (M + 1 - p) (M + 2 - p + 1) p (by omega) (by omega)]
  conv => lhs; unfold lx_skF
  rw [lx_sk_s (M + 2 - p) (M + 1 - (p + 1)) (p + 1) (by omega) (by omega)]
  cases hc : lx_cm t M (p + 2) with
  | none => rfl
  | some q =>
    have := lx_cm_b hc
    have e : lx_skF t M (M + 2 - p) q = lx_sk t M q := lx_sk_s _ _ q (by omega) (by omega)
    simp only [e]
    rfl
theorem lx_sk_b {t : Nat → Nat} {M : Nat} : ∀ (n p : Nat), p ≤ M → p ≤ (lx_skF t M n p).1 ∧ (lx_skF t M n p).1 ≤ M
  | 0, p, h => ⟨Nat.le_refl _, h⟩
  | n + 1, p, h => by
    unfold lx_skF
    by_cases h1 : lx_bl (lx_i t M p) = true
    · rw [if_pos h1]
      have : p < M := lx_i_in (fun z => by rw [z] at h1; cases h1)
      have := lx_sk_b (t := t) (M := M) n (p + 1) (by omega)
      omega
    · rw [if_neg h1]
      by_cases h2 : lx_i t M p = 40 ∧ lx_i t M (p + 1) = 42
      · rw [if_pos h2]
        cases hc : lx_cm t M (p + 2) with
        | none => exact ⟨Nat.le_refl _, h⟩
        | some q =>
          have := lx_cm_b hc
          have := lx_sk_b (t := t) (M := M) n q (by omega)
          exact ⟨Nat.le_trans (by omega) this.1, this.2⟩
      · rw [if_neg h2]
        exact ⟨Nat.le_refl _, h⟩
/-- the end of the digits of a base -/
def lx_deF (t : Nat → Nat) (M b : Nat) : Nat → Nat → Nat
  | 0, p => p
  | n + 1, p => if p < M ∧ lx_dk (t p) < b then lx_deF t M b n (p + 1) else p
def lx_de (t : Nat → Nat) (M b p : Nat) : Nat := lx_deF t M b (M - p) p
theorem lx_de_u (t : Nat → Nat) (M b p : Nat) : lx_de t M b p = if p < M ∧ lx_dk (t p) < b then lx_de t M b (p + 1) else p := by
  by_cases h : p < M
  · rw [lx_de, show M - p = (M - (p + 1)) + 1 by omega]; rfl
  · rw [lx_de, show M - p = 0 by omega, if_neg (by omega)]; rfl
theorem lx_de_b {t : Nat → Nat} {M b : Nat} : ∀ (n p : Nat), p ≤ lx_deF t M b n p ∧ (p ≤ M → lx_deF t M b n p ≤ M)
  | 0, p => ⟨Nat.le_refl _, id⟩
  | n + 1, p => by
    unfold lx_deF
    by_cases h : p < M ∧ lx_dk (t p) < b
    · rw [if_pos h]
      have := lx_de_b (t := t) (M := M) (b := b) n (p + 1)
      exact ⟨Nat.le_trans (Nat.le_succ _) this.1, fun _ => this.2 (by omega)⟩
    · rw [if_neg h]
      exact ⟨Nat.le_refl _, id⟩
/-- the value of the digits behind those that make a -/
def lx_dvF (t : Nat → Nat) (M b : Nat) : Nat → Nat → Nat → Nat
  | 0, _, a => a
  | n + 1, p, a => if p < M ∧ lx_dk (t p) < b then lx_dvF t M b n (p + 1) (a * b + lx_dk (t p)) else a
def lx_dv (t : Nat → Nat) (M b p a : Nat) : Nat := lx_dvF t M b (M - p) p a
theorem lx_dv_u (t : Nat → Nat) (M b p a : Nat) : lx_dv t M b p a = if p < M ∧ lx_dk (t p) < b then lx_dv t M b (p + 1) (a * b + lx_dk (t p)) else a := by
  by_cases h : p < M
  · rw [lx_dv, show M - p = (M - (p + 1)) + 1 by omega]; rfl
  · rw [lx_dv, show M - p = 0 by omega, if_neg (by omega)]; rfl
/-- cut at C, digit by digit or at the end: the same -/
theorem lx_cut {C b x y d : Nat} (hb : 1 ≤ b) (h : min x C = min y C) : min (min x C * b + d) C = min (y * b + d) C := by
  have : C ≤ C * b := Nat.le_mul_of_pos_right C hb
  by_cases q : y < C
  · have e : min x C = y := by omega
    rw [e]
  · have e : min x C = C := by omega
    have : C ≤ y * b := Nat.le_trans (by omega) (Nat.le_mul_of_pos_right y hb)
    rw [e]
    omega
/-- the end of a name -/
def lx_neF (t : Nat → Nat) (M : Nat) : Nat → Nat → Nat
  | 0, p => p
  | n + 1, p => if p < M ∧ lx_np (t p) = true then lx_neF t M n (p + 1) else p
def lx_ne (t : Nat → Nat) (M p : Nat) : Nat := lx_neF t M (M - p) p
theorem lx_ne_u (t : Nat → Nat) (M p : Nat) : lx_ne t M p = if p < M ∧ lx_np (t p) = true then lx_ne t M (p + 1) else p := by
  by_cases h : p < M
  · rw [lx_ne, show M - p = (M - (p + 1)) + 1 by omega]; rfl
  · rw [lx_ne, show M - p = 0 by omega, if_neg (by omega)]; rfl
theorem lx_ne_b {t : Nat → Nat} {M : Nat} : ∀ (n p : Nat), p ≤ lx_neF t M n p ∧ (p ≤ M → lx_neF t M n p ≤ M)
  | 0, p => ⟨Nat.le_refl _, id⟩
  | n + 1, p => by
    unfold lx_neF
    by_cases h : p < M ∧ lx_np (t p) = true
    · rw [if_pos h]
      have := lx_ne_b (t := t) (M := M) n (p + 1)
      exact ⟨Nat.le_trans (Nat.le_succ _) this.1, fun _ => this.2 (by omega)⟩
    · rw [if_neg h]
      exact ⟨Nat.le_refl _, id⟩
/-- tokens: kind, value, end; 45: badly written, its value the fault -/
abbrev lx_K := Nat × Nat × Nat
def lx_fin (t : Nat → Nat) (M e v : Nat) : lx_K := if lx_np (lx_i t M e) = true ∨ 2147483647 < v then (45, 4, e) else (42, v, e)
def lx_num (t : Nat → Nat) (M p : Nat) : lx_K :=
  if lx_i t M (lx_de t M 10 p) = 35 then
    (if (lx_dv t M 10 p 0 = 16 ∨ lx_dv t M 10 p 0 = 2) ∧ lx_de t M (lx_dv t M 10 p 0) (lx_de t M 10 p + 1) ≠ lx_de t M 10 p + 1
     then lx_fin t M (lx_de t M (lx_dv t M 10 p 0) (lx_de t M 10 p + 1)) (lx_dv t M (lx_dv t M 10 p 0) (lx_de t M 10 p + 1) 0) else (45, 4, p))
  else lx_fin t M (lx_de t M 10 p) (lx_dv t M 10 p 0)
/-- a unit of time: milliseconds, letters -/
def lx_unit (t : Nat → Nat) (M p : Nat) : Nat × Nat := if lx_gi t M p = 77 ∧ lx_gi t M (p + 1) = 83 then (1, 2) else if lx_gi t M p = 83 then (1000, 1) else if lx_gi t M p = 77 then (60000, 1) else if lx_gi t M p = 72 then (3600000, 1) else (0, 1)
def lx_tim (t : Nat → Nat) (M p : Nat) : lx_K :=
  if lx_de t M 10 (p + 2) = p + 2 ∨ (lx_unit t M (lx_de t M 10 (p + 2))).1 = 0 then (45, 4, p)
  else lx_fin t M (lx_de t M 10 (p + 2) + (lx_unit t M (lx_de t M 10 (p + 2))).2) (lx_dv t M 10 (p + 2) 0 * (lx_unit t M (lx_de t M 10 (p + 2))).1)
def lx_area (c : Int) : Nat := if c = 73 then 0 else if c = 81 then 1 else if c = 77 then 2 else 9
def lx_pla (t : Nat → Nat) (M p : Nat) : lx_K :=
  if lx_area (lx_gi t M (p + 1)) ≠ 9 ∧ (lx_gi t M (p + 2) = 88 ∨ lx_gi t M (p + 2) = 87) ∧ lx_de t M 10 (p + 3) ≠ p + 3 ∧ lx_dv t M 10 (p + 3) 0 ≤ (if lx_gi t M (p + 2) = 88 then 255 else 63) ∧ lx_np (lx_i t M (lx_de t M 10 (p + 3))) = false
  then (43, 256 * (lx_area (lx_gi t M (p + 1)) + (if lx_gi t M (p + 2) = 88 then 0 else 3)) + lx_dv t M 10 (p + 3) 0, lx_de t M 10 (p + 3)) else (45, 5, p)
def lx_sgs : List Nat := [40, 41, 91, 93, 44, 59, 58, 46, 43, 45, 42, 47, 61, 60, 62, 38, 124]
def lx_sgn (t : Nat → Nat) (M p : Nat) : lx_K :=
  if lx_two (lx_i t M p) (lx_i t M (p + 1)) ≠ -1 then ((lx_two (lx_i t M p) (lx_i t M (p + 1))).toNatClampNeg, 0, p + 2)
  else if t p ∈ lx_sgs then (52 + lx_sgs.idxOf (t p), 0, p + 1) else (45, 1, p)
/-- with the names so far: kind, place, value, end, names -/
def lx_nam (t : Nat → Nat) (M p : Nat) (ns : List (List Nat)) : lx_K × List (List Nat) :=
  if 32 < lx_ne t M p - p then ((45, 3, p), ns)
  else if nt_w t p (lx_ne t M p) ∈ ns then ((min (ns.idxOf (nt_w t p (lx_ne t M p))) 41, ns.idxOf (nt_w t p (lx_ne t M p)), lx_ne t M p), ns)
  else ((min ns.length 41, ns.length, lx_ne t M p), ns ++ [nt_w t p (lx_ne t M p)])
def lx_tok (t : Nat → Nat) (M p : Nat) (ns : List (List Nat)) : lx_K × List (List Nat) :=
  if M ≤ p then ((44, 0, p), ns)
  else if (t p = 84 ∨ t p = 116) ∧ lx_i t M (p + 1) = 35 then (lx_tim t M p, ns)
  else if lx_dg (t p) = true then (lx_num t M p, ns)
  else if lx_np (t p) = true then lx_nam t M p ns
  else if t p = 37 then (lx_pla t M p, ns)
  else (lx_sgn t M p, ns)
/-- the token behind a place: its place and what it is -/
def lx_nx (t : Nat → Nat) (M : Nat) (s : Nat × List (List Nat)) : Nat × lx_K × List (List Nat) :=
  if (lx_sk t M s.1).2 = true then ((lx_sk t M s.1).1, lx_tok t M (lx_sk t M s.1).1 s.2) else ((lx_sk t M s.1).1, (45, 2, (lx_sk t M s.1).1), s.2)
/-- before token j: place and names -/
def lx_at (t : Nat → Nat) (M : Nat) (ns : List (List Nat)) : Nat → Nat × List (List Nat)
  | 0 => (0, ns)
  | j + 1 => ((lx_nx t M (lx_at t M ns j)).2.1.2.2, (lx_nx t M (lx_at t M ns j)).2.2)
def lx_k (t : Nat → Nat) (M : Nat) (ns : List (List Nat)) (j : Nat) : Nat := (lx_nx t M (lx_at t M ns j)).2.1.1
def lx_p (t : Nat → Nat) (M : Nat) (ns : List (List Nat)) (j : Nat) : Nat := (lx_nx t M (lx_at t M ns j)).1
def lx_v (t : Nat → Nat) (M : Nat) (ns : List (List Nat)) (j : Nat) : Nat := (lx_nx t M (lx_at t M ns j)).2.1.2.1
