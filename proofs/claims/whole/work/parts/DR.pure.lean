/-! WHAT a rule changes of types, cells and meanings -/
def ot (l : List pg_N) (A A' : rl_A) (i : Nat) : Prop := (∀ j, j ≠ i → A'.2.1 j = A.2.1 j) ∧ (∀ j, rr_sc l j → A'.2.2.1 j = A.2.2.1 j) ∧ ∀ j, rl_k l j = 19 → A'.2.2.2 j = A.2.2.2 j
theorem ot_r {l : List pg_N} {A A' : rl_A} {i : Nat} (h : A'.2 = A.2) : ot l A A' i := ⟨fun _ _ => by rw [h], fun _ _ => by rw [h], fun _ _ => by rw [h]⟩
theorem rl_sets {f : Nat → Int32} {i : Nat} {x : Int32} : rl_set f i x i = x := if_pos rfl
theorem rl_setn {f : Nat → Int32} {i j : Nat} {x : Int32} (h : j ≠ i) : rl_set f i x j = f j := if_neg h
theorem ot_ty {l : List pg_N} {A A' : rl_A} {i : Nat} {x : Int32} (h : ot l A A' i) : ot l A (rl_ty A' i x) i := ⟨fun j q => (rl_setn q).trans (h.1 j q), h.2.1, h.2.2⟩
theorem ot_ce {l : List pg_N} {A A' : rl_A} {i : Nat} {x : Int32} (h : ot l A A' i) (hk : ¬ rr_sc l i) : ot l A (rl_ce A' i x) i := ⟨h.1, fun j q => (rl_setn (fun z => hk (by rw [← z]; exact q))).trans (h.2.1 j q), h.2.2⟩
theorem ot_me {l : List pg_N} {A A' : rl_A} {i : Nat} {x : Int32} (h : ot l A A' i) (hk : rl_k l i ≠ 19) : ot l A (rl_me A' i x) i := ⟨h.1, h.2.1, fun j q => (rl_setn (fun z => hk (by rw [← z]; exact q))).trans (h.2.2 j q)⟩
theorem if_2 {P : Nat × rl_A → Prop} {c : Prop} [Decidable c] {p q : Nat × rl_A} (h1 : P p) (h2 : P q) : P (if c then p else q) := by
  by_cases w : c
  · rw [if_pos w]; exact h1
  · rw [if_neg w]; exact h2
theorem ot_if {l : List pg_N} {A : rl_A} {i : Nat} {c : Prop} [Decidable c] {p q : Nat × rl_A} (h1 : ot l A p.2 i) (h2 : ot l A q.2 i) : ot l A (if c then p else q).2 i := if_2 (P := fun z => ot l A z.2 i) h1 h2
theorem rl_ot {l : List pg_N} {NN i : Nat} (hG : lg_G l NN) (hi : i < l.length) (A : rl_A) : ot l A (rl_out l A i).2 i := by
  have hl := (lg_V hG hi).1
  have O : ot l A A i := ot_r rfl
  have sc : rl_k l i ≠ 16 → rl_k l i ≠ 25 → ¬ rr_sc l i := fun h1 h2 z => by rcases z with z | z <;> omega
  have cs : rl_k l i = 0 ∨ rl_k l i = 1 ∨ rl_k l i = 4 ∨ rl_k l i = 5 ∨ rl_k l i = 6 ∨ rl_k l i = 7 ∨ rl_k l i = 8 ∨ rl_k l i = 9 ∨ rl_k l i = 10 ∨ rl_k l i = 12 ∨ rl_k l i = 13 ∨ rl_k l i = 14 ∨ rl_k l i = 15 ∨ rl_k l i = 16 ∨ rl_k l i = 18 ∨ rl_k l i = 19 ∨ rl_k l i = 20 ∨ rl_k l i = 22 ∨ rl_k l i = 23 ∨ rl_k l i = 25 ∨ rl_k l i = 28 ∨ rl_k l i = 29 ∨ rl_k l i = 30 ∨ rl_k l i = 31 ∨ rl_k l i = 32 ∨ rl_k l i = 33 ∨ rl_k l i = 34 ∨ rl_k l i = 35 ∨ rl_k l i = 36 ∨ (rl_k l i = 2 ∨ rl_k l i = 3 ∨ rl_k l i = 11 ∨ rl_k l i = 17 ∨ rl_k l i = 21 ∨ rl_k l i = 24 ∨ rl_k l i = 26 ∨ rl_k l i = 27) := by omega
  rcases cs with q | q | q | q | q | q | q | q | q | q | q | q | q | q | q | q | q | q | q | q | q | q | q | q | q | q | q | q | q | q
  · rw [rl_o0 q]; exact O
  · rw [rl_o1 q]; exact O
  · rw [rl_o4 q]; exact O
  · obtain ⟨m, hp, y, c, D⟩ := lg_5 hG hi q
    rw [rl_o5 q, rl_decl_u D]
    refine ot_if O (ot_if O (ot_if O (ot_if O ?_)))
    · refine ⟨fun _ _ => rfl, fun j hj => ?_, fun _ _ => rfl⟩
      show (if i < j ∧ j ≤ i + m then _ else A.2.2.1 j) = _
      refine if_neg (fun z => ?_)
      have := D.2.1 j z.1 z.2
      rcases hj with w | w <;> omega
  · rw [rl_o6 q]
    split
    · split
      · exact O
      · exact ot_r rfl
    split
    · exact O
    · exact ot_ce (ot_ty O) (sc (by omega) (by omega))
  · rw [rl_o7 q]; exact ot_r rfl
  · rw [rl_o8 q]; exact ot_ty O
  · rw [rl_o9 q]; exact O
  · rw [rl_o10 q]; exact O
  · rw [rl_o12 q]; exact O
  · rw [rl_o13 q]; exact ot_me (ot_ce O (sc (by omega) (by omega))) (by omega)
  · rw [rl_o14 q, rl_par14_u rfl]
    split
    · exact O
    split
    · exact O
    split
    · exact O
    split
    · exact O
    split
    · exact O
    · exact ot_ce O (sc (by omega) (by omega))
  · rw [rl_o15 q]; exact O
  · rw [rl_o16 q]; exact O
  · rw [rl_o18 q]; exact O
  · rw [rl_o19 q, rl_for_u]
    split
    · exact O
    split
    · exact O
    split
    · exact O
    split
    · exact O
    · exact ot_ce O (sc (by omega) (by omega))
  · rw [rl_o20 q]; exact O
  · rw [rl_o22 q]; exact ot_r rfl
  · rw [rl_o23 q]; exact O
  · rw [rl_o25 q]; exact O
  · rw [rl_o28 q]; exact O
  · rw [rl_o29 q]; exact O
  · rw [rl_o30 q]; exact ot_ty O
  · rw [rl_o31 q]; exact ot_ty O
  · rw [rl_o32 q]; exact ot_ce (ot_ty O) (sc (by omega) (by omega))
  · rw [rl_o33 q]
    split
    · exact O
    split
    · exact O
    split
    · exact O
    · exact ot_ce (ot_ty O) (sc (by omega) (by omega))
  · rw [rl_o34 q]
    cases h : rl_fn (rl_v l i) with
    | some f =>
      rw [rl_call_f h]
      split
      · exact O
      split
      · exact O
      · exact ot_me (ot_ty O) (by omega)
    | none =>
      cases h2 : rl_own A.1.tail (rl_v l i) with
      | none => rw [rl_call_n h h2]; exact O
      | some w =>
        obtain ⟨b, y⟩ := w
        rw [rl_call_o h h2]
        split
        · exact O
        split
        · exact O
        split
        · exact O
        · exact ot_me (ot_ty O) (by omega)
  · rw [rl_o35 q]
    exact ot_if O (ot_ty O)
  · rw [rl_o36 q]; exact ot_ty O
  · rw [rl_on q]; exact O
/-! names that are found stay found -/
theorem rl_fm {vs : List rl_V} {x : Int32} : (rl_find vs x).isSome = true ↔ x ∈ vs.map (·.1) := by
  unfold rl_find
  rw [List.find?_isSome, List.mem_map]
  refine ⟨fun ⟨v, h1, h2⟩ => ⟨v, h1, of_decide_eq_true h2⟩, fun ⟨v, h1, h2⟩ => ⟨v, h1, decide_eq_true h2⟩⟩
theorem rl_atpn {x : Int32} {vs : List rl_V} : (rl_atp x vs).map (·.1) = vs.map (·.1) := by
  cases vs <;> rfl
theorem rl_fo {l : List pg_N} {NN i : Nat} (hG : lg_G l NN) (hi : i < l.length) {y : rl_B} {r : List rl_B} {T : (Nat → Int32) × (Nat → Int32) × (Nat → Int32)} {x : Int32} (h : (rl_find y.2.2.2.2 x).isSome = true) : (rl_find (rl_cur (rl_out l (y :: r, T) i).2).2.2.2.2 x).isSome = true ∧ (rl_cur (rl_out l (y :: r, T) i).2).2.2.1 = y.2.2.1 := by
  have hl := (lg_V hG hi).1
  by_cases h5 : rl_k l i = 5
  · obtain ⟨m, hp, yt, c, D⟩ := lg_5 hG hi h5
    rw [rl_o5 h5, rl_decl_u D]
    have I := @if_2 (fun z => (rl_find (rl_cur z.2).2.2.2.2 x).isSome = true ∧ (rl_cur z.2).2.2.1 = y.2.2.1)
    refine I (by exact ⟨h, rfl⟩) (I (by exact ⟨h, rfl⟩) (I (by exact ⟨h, rfl⟩) (I (by exact ⟨h, rfl⟩) ?_)))
    · refine ⟨?_, rfl⟩
      rw [rl_fm] at h ⊢
      show x ∈ (rl_settle _ _ _ _ _ m y.2.2.2.2).map (·.1)
      rw [rl_sen]
      exact h
  by_cases h7 : rl_k l i = 7
  · rw [rl_o7 h7]
    refine ⟨?_, rfl⟩
    rw [rl_fm] at h ⊢
    show x ∈ (rl_atp _ y.2.2.2.2).map (·.1)
    rw [rl_atpn]
    exact h
  by_cases h22 : rl_k l i = 22
  · rw [rl_o22 h22]; exact ⟨h, rfl⟩
  by_cases h6 : rl_k l i = 6 ∧ rl_k l (rl_par l i) = 5
  · rw [rl_o6 h6.1, if_pos h6.2]
    split
    · exact ⟨h, rfl⟩
    · refine ⟨?_, rfl⟩
      rw [rl_fm] at h ⊢
      exact List.mem_cons_of_mem _ h
  have oA := (rl_oA (l := l) (A := (y :: r, T)) (i := i) hl h5 h7 h22 (fun a b => h6 ⟨a, b⟩)).1
  unfold rl_cur
  rw [oA]
  exact ⟨h, rfl⟩
/-! types of expressions -/
theorem pv_wT {a b : Int32} (ha : a = -1 ∨ pv_T a) (hb : b = -1 ∨ pv_T b) : rl_wid a b = -1 ∨ pv_T (rl_wid a b) := by
  unfold pv_T at *
  rcases ha with h | h | h | h <;> rcases hb with g | g | g | g <;> rw [h, g] <;> decide
theorem pv_cT {a b : Int32} (ha : a = -1 ∨ pv_T a) (hb : b = -1 ∨ pv_T b) : rl_com a b = -1 ∨ pv_T (rl_com a b) := by
  unfold pv_T at *
  rcases ha with h | h | h | h <;> rcases hb with g | g | g | g <;> rw [h, g] <;> decide
theorem pv_sT {f : Nat} {a b c : Int32} (ha : a = -1 ∨ pv_T a) (hb : b = -1 ∨ pv_T b) (hc : c = -1 ∨ pv_T c) : rl_std f a b c = -1 ∨ pv_T (rl_std f a b c) := by
  unfold rl_std
  split
  · exact pv_wT ha ha
  split
  · exact pv_wT ha hb
  split
  · exact pv_wT (pv_wT ha hb) hc
  split
  · split
    · exact pv_cT hb hc
    · exact Or.inl rfl
  split
  · split
    · exact ha
    · exact Or.inl rfl
  split
  · exact Or.inr (Or.inr (Or.inl rfl))
  split
  · exact Or.inr (Or.inr (Or.inr rfl))
  split
  · exact Or.inr (Or.inl rfl)
  · exact Or.inl rfl
theorem pe_sr0 {A : rl_A} {x : Int32} {s : Nat} (h : rl_srt A x s = 0) : ∃ v, rl_find (rl_cur A).2.2.2.2 x = some v ∧ v.2.1 = s ∧ rl_var A x = v := by
  cases e : rl_find (rl_cur A).2.2.2.2 x with
  | none => rw [rl_srn e] at h; exact absurd h (by decide)
  | some v =>
    rw [rl_srs e] at h
    by_cases q : v.2.1 = s
    · exact ⟨v, rfl, q, rl_vrs e⟩
    · rw [if_neg q] at h; exact absurd h (by decide)
/-- an expression: not a name of a declaration, nor of an output -/
def pe_X (l : List pg_N) (j : Nat) : Prop := (30 ≤ rl_k l j ∧ rl_k l j ≤ 36) ∨ (rl_k l j = 6 ∧ rl_k l (rl_par l j) ≠ 5 ∧ rl_k l (rl_par l j) ≠ 33)
def pe_N (l : List pg_N) (A : rl_A) (j : Nat) : Prop := (pe_X l j → pv_T (A.2.1 j)) ∧ ((rl_k l j = 6 ∧ rl_k l (rl_par l j) ≠ 5 ∧ rl_k l (rl_par l j) ≠ 33) ∨ rl_k l j = 32 → (rl_find (rl_cur A).2.2.2.2 (rl_v l j)).isSome = true)
theorem pe_Ni {l : List pg_N} {NN i : Nat} {A : rl_A} (hG : lg_G l NN) (hi : i < l.length) (hp : pv_B A.1) (hB : A.1 ≠ []) (hB9 : A.1.length ≤ 409) (hbl : ∀ b y, rl_blk A.1 b = some y → y.2.2.1 < l.length ∧ rl_k l y.2.2.1 = y.1) (hch : ∀ c ∈ rl_c l i, pe_N l A c) (hf : (rl_out l A i).1 = 0) : pe_N l (rl_out l A i).2 i := by
  have hl := (lg_V hG hi).1
  have cu := pv_cur hp hB
  have vv : ∀ {x : Int32} {v : rl_V}, rl_find (rl_cur A).2.2.2.2 x = some v → pv_v A.1.tail v := fun e => cu.2.2.2.2.1 _ (List.mem_of_find?_eq_some e)
  have chX : ∀ c ∈ rl_c l i, rl_k l i ≠ 5 → rl_k l i ≠ 33 → sh_E (rl_k l c) → pv_T (A.2.1 c) := fun c hc h1 h2 h3 => (hch c hc).1 (by
    have e := (rl_upc' hG hi hc).2
    unfold pe_X
    rw [e]
    rcases h3 with w | w
    · exact Or.inr ⟨w, h1, h2⟩
    · exact Or.inl w)
  have key : ∀ {v : rl_V} {x : Int32}, rl_find (rl_cur A).2.2.2.2 x = some v → v.2.1 ≤ 1 → pv_T v.2.2.1 := fun e h => (vv e).2.2.1 h
  unfold pe_N
  by_cases k6 : rl_k l i = 6
  · rw [rl_o6 k6] at hf ⊢
    by_cases p5 : rl_k l (rl_par l i) = 5
    · exact ⟨fun z => by rcases z with z | z; omega; exact absurd p5 z.2.1, fun z => by rcases z with z | z; exact absurd p5 z.2.1; omega⟩
    by_cases p33 : rl_k l (rl_par l i) = 33
    · exact ⟨fun z => by rcases z with z | z; omega; exact absurd p33 z.2.2, fun z => by rcases z with z | z; exact absurd p33 z.2.2; omega⟩
    rw [if_neg p5, if_neg p33] at hf ⊢
    obtain ⟨v, v1, v2, v3⟩ := pe_sr0 hf
    refine ⟨fun _ => ?_, fun _ => ?_⟩
    · show pv_T (rl_set A.2.1 i (rl_var A (rl_v l i)).2.2.1 i)
      rw [rl_sets, v3]
      exact key v1 (by omega)
    · show (rl_find (rl_cur A).2.2.2.2 (rl_v l i)).isSome = true
      rw [v1]; rfl
  by_cases k30 : rl_k l i = 30
  · rw [rl_o30 k30]
    refine ⟨fun _ => ?_, fun z => by rcases z with z | z <;> omega⟩
    show pv_T (rl_set A.2.1 i _ i)
    rw [rl_sets]
    split
    · exact Or.inr (Or.inl rfl)
    · exact Or.inr (Or.inr rfl)
  by_cases k31 : rl_k l i = 31
  · rw [rl_o31 k31]
    refine ⟨fun _ => ?_, fun z => by rcases z with z | z <;> omega⟩
    show pv_T (rl_set A.2.1 i _ i)
    rw [rl_sets]
    exact Or.inl rfl
  by_cases k32 : rl_k l i = 32
  · rw [rl_o32 k32] at hf ⊢
    have s0 : rl_srt A (rl_v l i) 1 = 0 := Classical.not_not.mp (fun z => by
      have hf : (if rl_srt A (rl_v l i) 1 ≠ 0 then rl_srt A (rl_v l i) 1 else if rl_num (A.2.1 (i + 1)) = true then 0 else 22) = 0 := hf
      rw [if_pos z] at hf
      exact z hf)
    obtain ⟨v, v1, v2, v3⟩ := pe_sr0 s0
    refine ⟨fun _ => ?_, fun _ => ?_⟩
    · show pv_T (rl_set A.2.1 i (rl_var A (rl_v l i)).2.2.1 i)
      rw [rl_sets, v3]
      exact key v1 (by omega)
    · show (rl_find (rl_cur A).2.2.2.2 (rl_v l i)).isSome = true
      rw [v1]; rfl
  by_cases k33 : rl_k l i = 33
  · rw [rl_o33 k33] at hf ⊢
    refine ⟨fun _ => ?_, fun z => by rcases z with z | z <;> omega⟩
    by_cases a : rl_srt A (rl_v l i) 2 ≠ 0
    · rw [if_pos a] at hf
      exact absurd hf a
    · rw [if_neg a] at hf ⊢
      obtain ⟨v, v1, v2, v3⟩ := pe_sr0 (Classical.not_not.mp a)
      obtain ⟨q, q1, q2, q3⟩ := (vv v1).2.2.2.1 v2
      have tl : A.1.tail.length ≤ 409 := by rw [List.length_tail]; omega
      rw [v3, q2, nI_clamp (by omega)] at hf ⊢
      cases e : rl_pin A.1 q (rl_v l (i + 1)) with
      | none => rw [e] at hf; exact absurd (show (23 : Nat) = 0 from hf) (by decide)
      | some w =>
        obtain ⟨p, t, c⟩ := w
        rw [e] at hf
        dsimp only at hf ⊢
        by_cases b : p ≠ 2
        · rw [if_pos b] at hf; exact absurd (show (23 : Nat) = 0 from hf) (by decide)
        · rw [if_neg b]
          show pv_T (rl_set A.2.1 i t i)
          rw [rl_sets]
          exact (rv_pin hp q1 e (by omega)).2.1
  by_cases k34 : rl_k l i = 34
  · rw [rl_o34 k34] at hf ⊢
    refine ⟨fun _ => ?_, fun z => by rcases z with z | z <;> omega⟩
    have hS := lg_S hG hi
    rw [k34] at hS
    have hS : ∀ x ∈ (rl_c l i).map (rl_k l), sh_E x := hS
    have tt : ∀ j, rl_tyc l A i j = -1 ∨ pv_T (rl_tyc l A i j) := fun j => by
      unfold rl_tyc
      by_cases w : j < (rl_c l i).length
      · rw [if_pos w]
        have e : (rl_c l i).getD j 0 = (rl_c l i)[j]'w := by rw [List.getD_eq_getElem?_getD, List.getElem?_eq_getElem w]; rfl
        have hm : (rl_c l i).getD j 0 ∈ rl_c l i := by rw [e]; exact List.getElem_mem w
        exact Or.inr (chX _ hm (by omega) (by omega) (hS _ (List.mem_map_of_mem hm)))
      · rw [if_neg w]; exact Or.inl rfl
    cases h : rl_fn (rl_v l i) with
    | some f =>
      rw [rl_call_f h] at hf ⊢
      by_cases a : (rl_c l i).length ≠ rl_ops f
      · rw [if_pos a] at hf; exact absurd (show (25 : Nat) = 0 from hf) (by decide)
      rw [if_neg a] at hf ⊢
      by_cases b : rl_std f (rl_tyc l A i 0) (rl_tyc l A i 1) (rl_tyc l A i 2) = -1
      · rw [if_pos b] at hf; exact absurd (show (26 : Nat) = 0 from hf) (by decide)
      rw [if_neg b]
      show pv_T (rl_set A.2.1 i _ i)
      rw [rl_sets]
      exact (pv_sT (tt 0) (tt 1) (tt 2)).resolve_left b
    | none =>
      cases h2 : rl_own A.1.tail (rl_v l i) with
      | none => rw [rl_call_n h h2] at hf; exact absurd (show (24 : Nat) = 0 from hf) (by decide)
      | some w =>
        obtain ⟨b, y⟩ := w
        rw [rl_call_o h h2] at hf ⊢
        by_cases a : y.1 ≠ 1
        · rw [if_pos a] at hf; exact absurd (show (24 : Nat) = 0 from hf) (by decide)
        rw [if_neg a] at hf ⊢
        by_cases c : (rl_c l i).length ≠ rl_nin y
        · rw [if_pos c] at hf; exact absurd (show (25 : Nat) = 0 from hf) (by decide)
        rw [if_neg c] at hf ⊢
        by_cases e : (((rl_c l i).zip (rl_ins y)).all (fun p => rl_fits (A.2.1 p.1) p.2)) = false
        · rw [if_pos e] at hf; exact absurd (show (26 : Nat) = 0 from hf) (by decide)
        rw [if_neg e]
        show pv_T (rl_set A.2.1 i _ i)
        rw [rl_sets]
        have ob := (rl_ownb h2).1
        have ob' : rl_blk A.1 b = some y := by
          cases hA : A.1 with
          | nil => exact absurd hA hB
          | cons z r =>
            rw [hA] at ob
            have ob : rl_blk r b = some y := ob
            have := rl_blkl ob
            rw [rl_blkc, if_neg (by omega)]
            exact ob
        obtain ⟨g1, g2⟩ := hbl b y ob'
        obtain ⟨f1, f2, f3⟩ := lg_f1 hG g1 (by rw [g2]; omega)
        obtain ⟨gg, gg1, gg2⟩ := (lg_V hG f1).2.2.1 (Or.inr f3)
        rw [gg2]
        have : gg = 0 ∨ gg = 1 ∨ gg = 2 := by omega
        unfold pv_T
        rcases this with w | w | w <;> (rw [w]; decide)
  by_cases k35 : rl_k l i = 35
  · rw [rl_o35 k35] at hf ⊢
    refine ⟨fun _ => ?_, fun z => by rcases z with z | z <;> omega⟩
    have hS := lg_S hG hi
    rw [k35] at hS
    obtain ⟨a, b, e, h1, h2⟩ : ∃ a b, (rl_c l i).map (rl_k l) = [a, b] ∧ sh_E a ∧ sh_E b := hS
    obtain ⟨g1, g2, g3, g4, g5, _⟩ := lg_2 hG hi e
    have t1 := chX (i + 1) (by rw [g3]; simp) (by omega) (by omega) (by rw [g4]; exact h1)
    have t2 := chX (i + 1 + rl_z l (i + 1)) (by rw [g3]; simp) (by omega) (by omega) (by rw [g5]; exact h2)
    have gd : (rl_c l i).getD 1 0 = i + 1 + rl_z l (i + 1) := by rw [g3]; rfl
    rw [gd] at hf ⊢
    have tr : (if (rl_v l i).toInt ≤ 4 then rl_com (A.2.1 (i + 1)) (A.2.1 (i + 1 + rl_z l (i + 1))) else rl_wid (A.2.1 (i + 1)) (A.2.1 (i + 1 + rl_z l (i + 1)))) = -1 ∨ pv_T (if (rl_v l i).toInt ≤ 4 then rl_com (A.2.1 (i + 1)) (A.2.1 (i + 1 + rl_z l (i + 1))) else rl_wid (A.2.1 (i + 1)) (A.2.1 (i + 1 + rl_z l (i + 1)))) := by
      split
      · exact pv_cT (Or.inr t1) (Or.inr t2)
      · exact pv_wT (Or.inr t1) (Or.inr t2)
    generalize (if (rl_v l i).toInt ≤ 4 then rl_com (A.2.1 (i + 1)) (A.2.1 (i + 1 + rl_z l (i + 1))) else rl_wid (A.2.1 (i + 1)) (A.2.1 (i + 1 + rl_z l (i + 1)))) = X at *
    by_cases w : X = -1
    · rw [if_pos w] at hf; exact absurd (show (27 : Nat) = 0 from hf) (by decide)
    rw [if_neg w]
    show pv_T (rl_set A.2.1 i _ i)
    rw [rl_sets]
    split
    · exact Or.inl rfl
    · exact tr.resolve_left w
  by_cases k36 : rl_k l i = 36
  · rw [rl_o36 k36]
    refine ⟨fun _ => ?_, fun z => by rcases z with z | z <;> omega⟩
    have hS := lg_S hG hi
    rw [k36] at hS
    obtain ⟨a, e, h1⟩ : ∃ e, (rl_c l i).map (rl_k l) = [e] ∧ sh_E e := hS
    obtain ⟨g1, g2, g3, _⟩ := lg_1 hG hi e
    show pv_T (rl_set A.2.1 i _ i)
    rw [rl_sets]
    exact chX (i + 1) (by rw [g2]; simp) (by omega) (by omega) (by rw [g3]; exact h1)
  · exact ⟨fun z => by rcases z with z | z <;> omega, fun z => by rcases z with z | z <;> omega⟩
