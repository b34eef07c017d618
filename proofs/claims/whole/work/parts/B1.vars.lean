/-! THE CLASS'S VARIABLES: lists -/
def cv_z : Nat × rl_V := (0, 0, 0, 0, 0, 0, 0)
def cv_fi (F : List (Nat × rl_V)) (o : Nat) (x : Int32) : Nat → Option Nat
  | 0 => none
  | k + 1 => if (F.getD k cv_z).1 = o ∧ (F.getD k cv_z).2.1 = x then some k else cv_fi F o x k
theorem cv_gd {F : List (Nat × rl_V)} {i : Nat} {y : Nat × rl_V} (h : F[i]? = some y) : F.getD i cv_z = y := by rw [List.getD_eq_getElem?_getD, h]; rfl
theorem cv_gi {F : List (Nat × rl_V)} {i : Nat} (h : i < F.length) : F[i]? = some ((F.getD i cv_z).1, (F.getD i cv_z).2) := by
  rw [List.getD_eq_getElem?_getD, List.getElem?_eq_getElem h]; rfl
theorem cv_fis {F : List (Nat × rl_V)} {o : Nat} {x : Int32} : ∀ {n i : Nat}, cv_fi F o x n = some i → i < n ∧ (F.getD i cv_z).1 = o ∧ (F.getD i cv_z).2.1 = x
  | 0, _, h => by cases h
  | n + 1, i, h => by
    unfold cv_fi at h
    by_cases q : (F.getD n cv_z).1 = o ∧ (F.getD n cv_z).2.1 = x
    · rw [if_pos q] at h; cases h; exact ⟨by omega, q⟩
    · rw [if_neg q] at h
      have := cv_fis h
      exact ⟨by omega, this.2⟩
theorem cv_fin {F : List (Nat × rl_V)} {o : Nat} {x : Int32} : ∀ {n : Nat}, cv_fi F o x n = none → ∀ i, i < n → ¬ ((F.getD i cv_z).1 = o ∧ (F.getD i cv_z).2.1 = x)
  | 0, _, i, hi => by omega
  | n + 1, h, i, hi => by
    unfold cv_fi at h
    by_cases q : (F.getD n cv_z).1 = o ∧ (F.getD n cv_z).2.1 = x
    · rw [if_pos q] at h; cases h
    · rw [if_neg q] at h
      by_cases e : i = n
      · rw [e]; exact q
      · exact cv_fin h i (by omega)
theorem cv_chs {F : List (Nat × rl_V)} {x : Int32} : ∀ {n i : Nat}, cv_ch F x n = some i → i < n ∧ (F.getD i cv_z).2.1 = x ∧ ∀ o, cv_fi F o x n = if (F.getD i cv_z).1 = o then some i else cv_fi F o x i
  | 0, _, h => by cases h
  | n + 1, i, h => by
    unfold cv_ch at h
    by_cases q : (F.getD n cv_z).2.1 = x
    · rw [show (if (F.getD n (0, 0, 0, 0, 0, 0, 0)).2.1 = x then some n else cv_ch F x n) = some n from if_pos q] at h
      cases h
      refine ⟨by omega, q, fun o => ?_⟩
      conv => lhs; unfold cv_fi
      by_cases e : (F.getD n cv_z).1 = o
      · rw [if_pos ⟨e, q⟩, if_pos e]
      · rw [if_neg (fun z => e z.1), if_neg e]
    · rw [show (if (F.getD n (0, 0, 0, 0, 0, 0, 0)).2.1 = x then some n else cv_ch F x n) = cv_ch F x n from if_neg q] at h
      have := cv_chs h
      refine ⟨by omega, this.2.1, fun o => ?_⟩
      conv => lhs; unfold cv_fi
      rw [if_neg (fun z => q z.2)]
      exact this.2.2 o
theorem cv_chn {F : List (Nat × rl_V)} {x : Int32} {o : Nat} : ∀ {n : Nat}, cv_ch F x n = none → cv_fi F o x n = none
  | 0, _ => rfl
  | n + 1, h => by
    unfold cv_ch at h
    by_cases q : (F.getD n cv_z).2.1 = x
    · rw [show (if (F.getD n (0, 0, 0, 0, 0, 0, 0)).2.1 = x then some n else cv_ch F x n) = some n from if_pos q] at h
      cases h
    · rw [show (if (F.getD n (0, 0, 0, 0, 0, 0, 0)).2.1 = x then some n else cv_ch F x n) = cv_ch F x n from if_neg q] at h
      unfold cv_fi
      rw [if_neg (fun z => q z.2)]
      exact cv_chn h
/-- what stands before doesn't see what comes behind -/
theorem cv_gda {F G : List (Nat × rl_V)} {i : Nat} (h : i < F.length) : (F ++ G).getD i cv_z = F.getD i cv_z := by
  rw [List.getD_eq_getElem?_getD, List.getD_eq_getElem?_getD, List.getElem?_append_left h]
theorem cv_fia {F G : List (Nat × rl_V)} {o : Nat} {x : Int32} : ∀ {n : Nat}, n ≤ F.length → cv_fi (F ++ G) o x n = cv_fi F o x n
  | 0, _ => rfl
  | n + 1, h => by
    unfold cv_fi
    rw [cv_gda (by omega), cv_fia (by omega)]
theorem cv_cha {F G : List (Nat × rl_V)} {x : Int32} : ∀ {n : Nat}, n ≤ F.length → cv_ch (F ++ G) x n = cv_ch F x n
  | 0, _ => rfl
  | n + 1, h => by
    unfold cv_ch
    rw [show (F ++ G).getD n (0, 0, 0, 0, 0, 0, 0) = F.getD n (0, 0, 0, 0, 0, 0, 0) from cv_gda (by omega), cv_cha (by omega)]
theorem cv_gdl {F : List (Nat × rl_V)} {y : Nat × rl_V} : (F ++ [y]).getD F.length cv_z = y := by
  rw [List.getD_eq_getElem?_getD, List.getElem?_append_right (Nat.le_refl _), Nat.sub_self]; rfl
theorem cv_fi1 {F : List (Nat × rl_V)} {y : Nat × rl_V} {o : Nat} {x : Int32} : cv_fi (F ++ [y]) o x (F.length + 1) = if y.1 = o ∧ y.2.1 = x then some F.length else cv_fi F o x F.length := by
  conv => lhs; unfold cv_fi
  rw [cv_gdl, cv_fia (Nat.le_refl _)]
theorem cv_ch1 {F : List (Nat × rl_V)} {y : Nat × rl_V} {x : Int32} : cv_ch (F ++ [y]) x (F.length + 1) = if y.2.1 = x then some F.length else cv_ch F x F.length := by
  conv => lhs; unfold cv_ch
  rw [show (F ++ [y]).getD F.length (0, 0, 0, 0, 0, 0, 0) = y from cv_gdl, cv_cha (Nat.le_refl _)]
/-- the variables of one block behind others -/
theorem cv_fb {H : List (Nat × rl_V)} {o : Nat} {x : Int32} : ∀ (vs : List rl_V), (rl_find vs x = none → cv_fi (H ++ vs.reverse.map (fun v => (o, v))) o x (H ++ vs.reverse.map (fun v => (o, v))).length = cv_fi H o x H.length) ∧ ∀ v, rl_find vs x = some v → ∃ i, cv_fi (H ++ vs.reverse.map (fun v => (o, v))) o x (H ++ vs.reverse.map (fun v => (o, v))).length = some i ∧ (H ++ vs.reverse.map (fun v => (o, v)))[i]? = some (o, v)
  | [] => by
    refine ⟨fun _ => ?_, fun v h => by cases h⟩
    rw [List.reverse_nil, List.map_nil, List.append_nil]
  | w :: vs => by
    have ih := cv_fb (H := H) (o := o) (x := x) vs
    have e : H ++ (w :: vs).reverse.map (fun v => (o, v)) = (H ++ vs.reverse.map (fun v => (o, v))) ++ [(o, w)] := by
      rw [List.reverse_cons, List.map_append, List.append_assoc]; rfl
    rw [e, List.length_append, List.length_singleton, cv_fi1]
    unfold rl_find at *
    by_cases q : w.1 = x
    · rw [List.find?_cons_of_pos (by simpa using q), if_pos ⟨rfl, q⟩]
      refine ⟨fun h => (by cases h), fun v h => ?_⟩
      cases h
      refine ⟨_, rfl, ?_⟩
      rw [List.getElem?_append_right (Nat.le_refl _), Nat.sub_self]; rfl
    · rw [List.find?_cons_of_neg (by simpa using q), if_neg (fun z => q z.2)]
      refine ⟨ih.1, fun v h => ?_⟩
      obtain ⟨i, e1, e2⟩ := ih.2 v h
      refine ⟨i, e1, ?_⟩
      rw [List.getElem?_append_left (cv_fis e1).1]
      exact e2
theorem cv_fo {H : List (Nat × rl_V)} {o o' : Nat} {x : Int32} (ho : o' ≠ o) : ∀ (vs : List rl_V), cv_fi (H ++ vs.map (fun v => (o', v))) o x (H ++ vs.map (fun v => (o', v))).length = cv_fi H o x H.length := by
  intro vs
  have key : ∀ n, n ≤ vs.length → cv_fi (H ++ vs.map (fun v => (o', v))) o x (H.length + n) = cv_fi H o x H.length := by
    intro n
    induction n with
    | zero => intro _; exact cv_fia (Nat.le_refl _)
    | succ n ih =>
      intro hn
      rw [← Nat.add_assoc]
      conv => lhs; unfold cv_fi
      rw [ih (by omega), if_neg]
      intro z
      apply ho
      rw [← z.1, List.getD_eq_getElem?_getD, List.getElem?_append_right (by omega), Nat.add_sub_cancel_left, List.getElem?_map, List.getElem?_eq_getElem (by omega)]
      rfl
  rw [List.length_append, List.length_map]
  exact key _ (Nat.le_refl _)
/-- owners -/
theorem cv_own : ∀ (B : List rl_B) (i o : Nat) (v : rl_V), (cv_L B)[i]? = some (o, v) → o < 9 + B.length
  | [], i, o, v, h => by
    have : ∀ y ∈ cv_P, y.1 < 9 := by decide +kernel
    exact this _ (List.mem_of_getElem? h)
  | b :: r, i, o, v, h => by
    have m := List.mem_of_getElem? h
    rcases List.mem_append.mp m with y | y
    · obtain ⟨j, hj⟩ := List.getElem?_of_mem y
      have := cv_own r j o v hj
      rw [List.length_cons]; omega
    · obtain ⟨w, _, e⟩ := List.mem_map.mp y
      cases e
      rw [List.length_cons]; omega
theorem cv_fz : ∀ (B : List rl_B) (o : Nat) (x : Int32), 9 + B.length ≤ o → cv_fi (cv_L B) o x (cv_L B).length = none := fun B o x ho => by
  cases e : cv_fi (cv_L B) o x (cv_L B).length with
  | none => rfl
  | some i =>
    have := cv_fis e
    have := cv_own B i _ _ (cv_gi this.1)
    omega
/-- own block number b: its variables -/
theorem rl_blkc {y : rl_B} {r : List rl_B} {b : Nat} : rl_blk (y :: r) b = if b = r.length then some y else rl_blk r b := by
  unfold rl_blk
  rw [List.reverse_cons]
  by_cases q : b = r.length
  · rw [if_pos q, q, List.getElem?_append_right (by rw [List.length_reverse]; exact Nat.le_refl _), List.length_reverse, Nat.sub_self]; rfl
  · rw [if_neg q]
    by_cases w : b < r.length
    · rw [List.getElem?_append_left (by rw [List.length_reverse]; exact w)]
    · rw [List.getElem?_eq_none (by rw [List.length_append, List.length_reverse, List.length_singleton]; omega), List.getElem?_eq_none (by rw [List.length_reverse]; omega)]
theorem rl_blkl {B : List rl_B} {b : Nat} {y : rl_B} (h : rl_blk B b = some y) : b < B.length := by
  unfold rl_blk at h
  rcases Nat.lt_or_ge b B.length with q | q
  · exact q
  · rw [List.getElem?_eq_none (by rw [List.length_reverse]; exact q)] at h; cases h
theorem cv_fow : ∀ (B : List rl_B) (b : Nat) (y : rl_B) (x : Int32), rl_blk B b = some y → (rl_find y.2.2.2.2 x = none → cv_fi (cv_L B) (9 + b) x (cv_L B).length = none) ∧ ∀ v, rl_find y.2.2.2.2 x = some v → ∃ i, cv_fi (cv_L B) (9 + b) x (cv_L B).length = some i ∧ (cv_L B)[i]? = some (9 + b, v)
  | [], b, y, x, h => by unfold rl_blk at h; simp at h
  | z :: r, b, y, x, h => by
    rw [rl_blkc] at h
    by_cases q : b = r.length
    · rw [if_pos q] at h
      cases h
      subst q
      have := cv_fb (H := cv_L r) (o := 9 + r.length) (x := x) z.2.2.2.2
      refine ⟨fun h => ?_, this.2⟩
      rw [show cv_L (z :: r) = cv_L r ++ z.2.2.2.2.reverse.map (fun v => (9 + r.length, v)) from rfl, this.1 h]
      exact cv_fz r _ x (Nat.le_refl _)
    · rw [if_neg q] at h
      have ih := cv_fow r b y x h
      have e : cv_fi (cv_L (z :: r)) (9 + b) x (cv_L (z :: r)).length = cv_fi (cv_L r) (9 + b) x (cv_L r).length := cv_fo (by omega) _
      rw [e]
      refine ⟨ih.1, fun v hv => ?_⟩
      obtain ⟨i, e1, e2⟩ := ih.2 v hv
      refine ⟨i, e1, ?_⟩
      show (cv_L r ++ _)[i]? = _
      rw [List.getElem?_append_left (cv_fis e1).1]
      exact e2
theorem cv_fst : ∀ (B : List rl_B) (q : Nat) (x : Int32), q < 9 → cv_fi (cv_L B) q x (cv_L B).length = cv_fi cv_P q x 32 ∧ ∀ i, i < 32 → (cv_L B)[i]? = cv_P[i]?
  | [], q, x, _ => ⟨rfl, fun _ _ => rfl⟩
  | z :: r, q, x, h => by
    have ih := cv_fst r q x h
    have e : cv_fi (cv_L (z :: r)) q x (cv_L (z :: r)).length = cv_fi (cv_L r) q x (cv_L r).length := cv_fo (by omega) _
    refine ⟨e.trans ih.1, fun i hi => ?_⟩
    show (cv_L r ++ _)[i]? = _
    have l32 : 32 ≤ (cv_L r).length := by
      rcases Nat.lt_or_ge i (cv_L r).length with w | w
      · rcases Nat.lt_or_ge 31 (cv_L r).length with u | u
        · exact u
        · have := ih.2 31 (by decide)
          rw [List.getElem?_eq_none u] at this
          exact absurd this (by decide)
      · have := ih.2 i hi
        rw [List.getElem?_eq_none w, List.getElem?_eq_getElem (show i < cv_P.length from hi)] at this
        cases this
    rw [List.getElem?_append_left (by omega)]
    exact ih.2 i hi
theorem cv_fpin (q : Nat) (x : Int32) (hq : q < 9) : (rl_pin [] q x = none → cv_fi cv_P q x 32 = none) ∧ ∀ p t c, rl_pin [] q x = some (p, t, c) → ∃ i, cv_fi cv_P q x 32 = some i ∧ cv_P[i]? = some (q, (x, 0, t, p, -1, c)) := by
  have uq : ∀ a ∈ rl_pins, ∀ b ∈ rl_pins, a.1 = b.1 → a.2.1 = b.2.1 → a = b := by decide +kernel
  have pos : ∀ i, i < 32 → ∃ a ∈ rl_pins, rl_pins[i]? = some a ∧ cv_P.getD i cv_z = (a.1, a.2.1, 0, a.2.2.2.1, a.2.2.1, -1, a.2.2.2.2) := fun i hi => by
    have e : rl_pins[i]? = some (rl_pins[i]'hi) := List.getElem?_eq_getElem hi
    refine ⟨_, List.getElem_mem hi, e, ?_⟩
    unfold cv_P
    rw [List.getD_eq_getElem?_getD, List.getElem?_map, e]; rfl
  have e9 : rl_pin [] q x = (rl_pins.find? (fun r => decide (r.1 = q ∧ r.2.1 = x))).map (fun r => (r.2.2.1, r.2.2.2.1, r.2.2.2.2)) := if_pos hq
  rw [e9]
  cases hf : rl_pins.find? (fun r => decide (r.1 = q ∧ r.2.1 = x)) with
  | none =>
    refine ⟨fun _ => ?_, fun p t c h => by cases h⟩
    cases e : cv_fi cv_P q x 32 with
    | none => rfl
    | some i =>
      obtain ⟨h1, h2, h3⟩ := cv_fis e
      obtain ⟨a, m1, _, m2⟩ := pos i h1
      rw [m2] at h2 h3
      have := List.find?_eq_none.mp hf a m1
      simp at this
      exact absurd h3 (this h2)
  | some r =>
    refine ⟨fun h => (by cases h), fun p t c h => ?_⟩
    have hr := List.find?_some hf
    have hm := List.mem_of_find?_eq_some hf
    simp at hr
    cases e : cv_fi cv_P q x 32 with
    | none =>
      obtain ⟨i, hi⟩ := List.getElem?_of_mem hm
      have hi32 : i < 32 := by
        rcases Nat.lt_or_ge i 32 with w | w
        · exact w
        · rw [List.getElem?_eq_none (show rl_pins.length ≤ i from w)] at hi; cases hi
      obtain ⟨a, m1, m3, m2⟩ := pos i hi32
      rw [hi] at m3
      cases m3
      exact absurd ⟨by rw [m2]; exact hr.1, by rw [m2]; exact hr.2⟩ (cv_fin e i hi32)
    | some i =>
      obtain ⟨h1, h2, h3⟩ := cv_fis e
      obtain ⟨a, m1, m3, m2⟩ := pos i h1
      have ea : a = r := uq a m1 r hm (by rw [m2] at h2; exact h2.trans hr.1.symm) (by rw [m2] at h3; exact h3.trans hr.2.symm)
      subst ea
      cases h
      refine ⟨i, rfl, ?_⟩
      rw [cv_gi (show i < cv_P.length from h1), m2]
      show some (a.1, a.2.1, 0, a.2.2.2.1, a.2.2.1, (-1 : Int32), a.2.2.2.2) = _
      rw [hr.1, hr.2]
/-- an input or output of block q -/
theorem cv_pin {B : List rl_B} {q : Nat} {x : Int32} (hq : q < 9 + B.length) : (rl_pin B q x = none → cv_fi (cv_L B) q x (cv_L B).length = none) ∧ ∀ p t c, rl_pin B q x = some (p, t, c) → ∃ i v, cv_fi (cv_L B) q x (cv_L B).length = some i ∧ (cv_L B)[i]? = some (q, v) ∧ v.2.2.2.1 = p ∧ v.2.2.1 = t ∧ v.2.2.2.2.2 = c ∧ (q < 9 → v.2.1 = 0) ∧ (9 ≤ q → ∃ y, rl_blk B (q - 9) = some y ∧ rl_find y.2.2.2.2 x = some v) := by
  by_cases h9 : q < 9
  · have e : rl_pin B q x = rl_pin [] q x := by unfold rl_pin; rw [if_pos h9, if_pos h9]
    have := cv_fpin q x h9
    obtain ⟨f1, f2⟩ := cv_fst B q x h9
    rw [e, f1]
    refine ⟨this.1, fun p t c h => ?_⟩
    obtain ⟨i, e1, e2⟩ := this.2 p t c h
    refine ⟨i, _, e1, (f2 i (cv_fis e1).1).trans e2, rfl, rfl, rfl, fun _ => rfl, fun z => by omega⟩
  · have e : rl_pin B q x = match rl_blk B (q - 9) with
      | none => none
      | some b => (rl_find b.2.2.2.2 x).map (fun v => (v.2.2.2.1, v.2.2.1, v.2.2.2.2.2)) := if_neg h9
    rw [e]
    have hl : q - 9 < B.reverse.length := by rw [List.length_reverse]; omega
    have eb : rl_blk B (q - 9) = some (B.reverse[q - 9]'hl) := List.getElem?_eq_getElem hl
    rw [eb]
    have := cv_fow B (q - 9) _ x eb
    rw [show 9 + (q - 9) = q by omega] at this
    dsimp only
    cases hf : rl_find (B.reverse[q - 9]'hl).2.2.2.2 x with
    | none => exact ⟨fun _ => this.1 hf, fun p t c h => by cases h⟩
    | some v =>
      refine ⟨fun h => (by cases h), fun p t c h => ?_⟩
      cases h
      obtain ⟨i, e1, e2⟩ := this.2 v hf
      exact ⟨i, v, e1, e2, rfl, rfl, rfl, fun z => absurd z h9, fun _ => ⟨_, rfl, hf⟩⟩

