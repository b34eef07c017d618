/-! THE PURE MACHINE, its values, locals, state and world. A reference is the place of a cell in the layout; 'ad' gives its address. -/
def pm_jk : Value := .retAddr 0
def pm_c2 (v : Value) : Bool := match v with
  | .long _ => true
  | .double _ => true
  | _ => false
def pm_tau (ad : Nat → Nat) (v : Value) : Value := match v with
  | .ref k => .ref (ad k)
  | w => w
theorem pm_tau_cat (ad : Nat → Nat) (v : Value) : (pm_tau ad v).category = v.category := by cases v <;> rfl
theorem pm_c2_t {v : Value} (h : pm_c2 v = true) : v.category = 2 := by cases v <;> first | rfl | cases h
theorem pm_c2_f {v : Value} (h : pm_c2 v = false) : v.category = 1 := by cases v <;> first | rfl | cases h
theorem pm_sum_tau (ad : Nat → Nat) (S : List Value) : ((S.map (pm_tau ad)).map fun v => v.category).sum = (S.map fun v => v.category).sum := by
  rw [List.map_map]
  congr 1
  exact List.map_congr_left (fun v _ => pm_tau_cat ad v)
/-- a store of a value of one slot -/
def pm_st : List Value → Nat → Value → List Value
  | [], _, _ => []
  | _ :: L, 0, v => v :: L
  | w :: L, 1, v => (bif pm_c2 w then pm_jk else w) :: pm_st L 0 v
  | w :: L, i + 2, v => w :: pm_st L (i + 1) v
/-- a store of a value of two slots -/
def pm_st2 : List Value → Nat → Value → List Value
  | [], _, _ => []
  | [w], _, _ => [w]
  | _ :: _ :: L, 0, v => v :: pm_jk :: L
  | w :: w2 :: L, 1, v => (bif pm_c2 w then pm_jk else w) :: pm_st2 (w2 :: L) 0 v
  | w :: w2 :: L, i + 2, v => w :: pm_st2 (w2 :: L) (i + 1) v
theorem pm_st_len : ∀ (L : List Value) (i : Nat) (v : Value), (pm_st L i v).length = L.length
  | [], _, _ => rfl
  | _ :: _, 0, _ => rfl
  | _ :: L, 1, v => by simp [pm_st, pm_st_len L 0 v]
  | _ :: L, i + 2, v => by simp [pm_st, pm_st_len L (i + 1) v]
theorem pm_st2_len : ∀ (L : List Value) (i : Nat) (v : Value), (pm_st2 L i v).length = L.length
  | [], _, _ => rfl
  | [_], _, _ => rfl
  | _ :: _ :: _, 0, _ => rfl
  | _ :: w2 :: L, 1, v => by simp [pm_st2, pm_st2_len (w2 :: L) 0 v]
  | _ :: w2 :: L, i + 2, v => by simp [pm_st2, pm_st2_len (w2 :: L) (i + 1) v]
theorem pm_st_get : ∀ (L : List Value) (i : Nat) (v : Value) (j : Nat) (w : Value), i < L.length → (pm_st L i v)[j]? = some w → w ≠ pm_jk → (j = i ∧ w = v) ∨ (j ≠ i ∧ L[j]? = some w ∧ ¬ (j + 1 = i ∧ w.category = 2))
  | [], i, v, j, w, h, _, _ => by simp at h
  | u :: L, 0, v, j, w, h, h1, h2 => by
    cases j with
    | zero => simp [pm_st] at h1; exact Or.inl ⟨rfl, h1.symm⟩
    | succ j => simp [pm_st] at h1; exact Or.inr ⟨by omega, by simpa using h1, by omega⟩
  | u :: L, 1, v, j, w, h, h1, h2 => by
    cases j with
    | zero =>
      simp only [pm_st, List.getElem?_cons_zero, Option.some.injEq] at h1
      cases hc : pm_c2 u with
      | true => rw [hc] at h1; exact absurd h1.symm h2
      | false =>
        rw [hc] at h1
        have h1 : u = w := h1
        subst h1
        exact Or.inr ⟨by omega, rfl, fun q => by rw [pm_c2_f hc] at q; omega⟩
    | succ j =>
      simp only [pm_st, List.getElem?_cons_succ] at h1
      have hl : 0 < L.length := by simp at h; omega
      rcases pm_st_get L 0 v j w hl h1 h2 with ⟨a, b⟩ | ⟨a, b, c⟩
      · exact Or.inl ⟨by omega, b⟩
      · exact Or.inr ⟨by omega, by simpa using b, by omega⟩
  | u :: L, i + 2, v, j, w, h, h1, h2 => by
    cases j with
    | zero =>
      simp only [pm_st, List.getElem?_cons_zero, Option.some.injEq] at h1
      subst h1
      exact Or.inr ⟨by omega, rfl, by omega⟩
    | succ j =>
      simp only [pm_st, List.getElem?_cons_succ] at h1
      have hl : i + 1 < L.length := by simp at h; omega
      rcases pm_st_get L (i + 1) v j w hl h1 h2 with ⟨a, b⟩ | ⟨a, b, c⟩
      · exact Or.inl ⟨by omega, b⟩
      · exact Or.inr ⟨by omega, by simpa using b, fun q => c ⟨by omega, q.2⟩⟩
theorem pm_st2_get : ∀ (L : List Value) (i : Nat) (v : Value) (j : Nat) (w : Value), i + 1 < L.length → (pm_st2 L i v)[j]? = some w → w ≠ pm_jk → (j = i ∧ w = v) ∨ (j ≠ i ∧ j ≠ i + 1 ∧ L[j]? = some w ∧ ¬ (j + 1 = i ∧ w.category = 2))
  | [], i, v, j, w, h, _, _ => by simp at h
  | [_], i, v, j, w, h, _, _ => by simp at h
  | u :: u2 :: L, 0, v, j, w, h, h1, h2 => by
    match j, h1 with
    | 0, h1 => simp [pm_st2] at h1; exact Or.inl ⟨rfl, h1.symm⟩
    | 1, h1 => simp [pm_st2] at h1; exact absurd h1.symm h2
    | j + 2, h1 => simp [pm_st2] at h1; exact Or.inr ⟨by omega, by omega, by simpa using h1, by omega⟩
  | u :: u2 :: L, 1, v, j, w, h, h1, h2 => by
    cases j with
    | zero =>
      simp only [pm_st2, List.getElem?_cons_zero, Option.some.injEq] at h1
      cases hc : pm_c2 u with
      | true => rw [hc] at h1; exact absurd h1.symm h2
      | false =>
        rw [hc] at h1
        have h1 : u = w := h1
        subst h1
        exact Or.inr ⟨by omega, by omega, rfl, fun q => by rw [pm_c2_f hc] at q; omega⟩
    | succ j =>
      simp only [pm_st2, List.getElem?_cons_succ] at h1
      have hl : 0 + 1 < (u2 :: L).length := by simp at h ⊢; omega
      rcases pm_st2_get (u2 :: L) 0 v j w hl h1 h2 with ⟨a, b⟩ | ⟨a, a2, b, c⟩
      · exact Or.inl ⟨by omega, b⟩
      · exact Or.inr ⟨by omega, by omega, by simpa using b, by omega⟩
  | u :: u2 :: L, i + 2, v, j, w, h, h1, h2 => by
    cases j with
    | zero =>
      simp only [pm_st2, List.getElem?_cons_zero, Option.some.injEq] at h1
      subst h1
      exact Or.inr ⟨by omega, by omega, rfl, by omega⟩
    | succ j =>
      simp only [pm_st2, List.getElem?_cons_succ] at h1
      have hl : i + 1 + 1 < (u2 :: L).length := by simp at h ⊢; omega
      rcases pm_st2_get (u2 :: L) (i + 1) v j w hl h1 h2 with ⟨a, b⟩ | ⟨a, a2, b, c⟩
      · exact Or.inl ⟨by omega, b⟩
      · exact Or.inr ⟨by omega, by omega, by simpa using b, fun q => c ⟨by omega, q.2⟩⟩
/-- the locals of a frame hold L -/
def pm_lh (ad : Nat → Nat) (ls : Array Slot) (L : List Value) : Prop :=
  ls.size = L.length ∧ lv_wf ls ∧ ∀ (i : Nat) (v : Value), L[i]? = some v → v ≠ pm_jk → ls[i]? = some (.val (pm_tau ad v))
/-- the same as a list of places and values -/
def pm_as (ad : Nat → Nat) (L : List Value) : List (Nat × Value) := (List.range L.length).filterMap (fun i => match L[i]? with
  | some v => if v = pm_jk then none else some (i, pm_tau ad v)
  | none => none)
theorem pm_as_mem {ad : Nat → Nat} {L : List Value} {q : Nat × Value} : q ∈ pm_as ad L ↔ ∃ v, L[q.1]? = some v ∧ v ≠ pm_jk ∧ q.2 = pm_tau ad v := by
  constructor
  · intro h
    obtain ⟨i, hi, h⟩ := List.mem_filterMap.mp h
    cases hv : L[i]? with
    | none => rw [hv] at h; cases h
    | some v =>
      rw [hv] at h
      by_cases hj : v = pm_jk
      · simp [hj] at h
      · simp only [hj, if_false, Option.some.injEq] at h
        subst h
        exact ⟨v, hv, hj, rfl⟩
  · rintro ⟨v, h1, h2, h3⟩
    refine List.mem_filterMap.mpr ⟨q.1, List.mem_range.mpr (List.getElem?_eq_some_iff.mp h1).1, ?_⟩
    rw [h1]
    simp only [h2, if_false]
    rw [← h3]
theorem pm_lh.has {ad : Nat → Nat} {ls : Array Slot} {L : List Value} (h : pm_lh ad ls L) : lv_has ls L.length (pm_as ad L) := by
  refine ⟨h.1, h.2.1, fun q hq => ?_⟩
  obtain ⟨v, h1, h2, h3⟩ := pm_as_mem.mp hq
  rw [h3]
  exact h.2.2 q.1 v h1 h2
theorem pm_lh.of1 {ad : Nat → Nat} {ls' : Array Slot} {L : List Value} {i : Nat} {v : Value} (hi : i < L.length) (h : lv_has ls' L.length ((i, pm_tau ad v) :: (pm_as ad L).filter (fun q => !(q.1 == i) && !(q.1 + 1 == i && q.2.category == 2)))) : pm_lh ad ls' (pm_st L i v) := by
  obtain ⟨h2, h3, h4⟩ := h
  refine ⟨by rw [pm_st_len]; exact h2, h3, fun j w hj hw => ?_⟩
  rcases pm_st_get L i v j w hi hj hw with ⟨a, b⟩ | ⟨a, b, c⟩
  · subst a; subst b
    exact h4 (j, pm_tau ad w) (List.mem_cons_self)
  · refine h4 (j, pm_tau ad w) (List.mem_cons_of_mem _ (List.mem_filter.mpr ⟨pm_as_mem.mpr ⟨w, b, hw, rfl⟩, ?_⟩))
    simp only [Bool.and_eq_true, Bool.not_eq_true', beq_eq_false_iff_ne, ne_eq, Bool.and_eq_false_iff, pm_tau_cat]
    refine ⟨a, ?_⟩
    by_cases e : j + 1 = i
    · exact Or.inr (fun q => c ⟨e, q⟩)
    · exact Or.inl e
theorem pm_lh.of2 {ad : Nat → Nat} {ls' : Array Slot} {L : List Value} {i : Nat} {v : Value} (hi : i + 1 < L.length) (h : lv_has ls' L.length ((i, pm_tau ad v) :: (pm_as ad L).filter (fun q => !(q.1 == i) && (!(q.1 == i + 1) && !(q.1 + 1 == i && q.2.category == 2))))) : pm_lh ad ls' (pm_st2 L i v) := by
  obtain ⟨h2, h3, h4⟩ := h
  refine ⟨by rw [pm_st2_len]; exact h2, h3, fun j w hj hw => ?_⟩
  rcases pm_st2_get L i v j w hi hj hw with ⟨a, b⟩ | ⟨a, a2, b, c⟩
  · subst a; subst b
    exact h4 (j, pm_tau ad w) (List.mem_cons_self)
  · refine h4 (j, pm_tau ad w) (List.mem_cons_of_mem _ (List.mem_filter.mpr ⟨pm_as_mem.mpr ⟨w, b, hw, rfl⟩, ?_⟩))
    simp only [Bool.and_eq_true, Bool.not_eq_true', beq_eq_false_iff_ne, ne_eq, Bool.and_eq_false_iff, pm_tau_cat]
    refine ⟨a, a2, ?_⟩
    by_cases e : j + 1 = i
    · exact Or.inr (fun q => c ⟨e, q⟩)
    · exact Or.inl e
/-- the state: int fields by place and slot, long fields, arrays' elements by place and index -/
abbrev pm_S : Type := (Nat → Nat → Int32) × (Nat → Nat → Int64) × (Nat → Nat → Int32)
/-- a layout: each cell an array (kind of its elements, length) or an object (class, kinds of its fields: 0 int, 1 long, q + 2 the cell at place q) -/
abbrev pm_Y : Type := List ((Nat × Nat) ⊕ (Nat × List Nat))
def pm_fv (ad : Nat → Nat) (σ : pm_S) (k j : Nat) (f : Nat) : Value := match f with
  | 0 => .int (σ.1 k j)
  | 1 => .long (σ.2.1 k j)
  | q + 2 => .ref (ad q)
def pm_cell (ad : Nat → Nat) (cA : Nat → ClassId) (σ : pm_S) (k : Nat) (c : (Nat × Nat) ⊕ (Nat × List Nat)) : va_E := match c with
  | .inl (t, n) => .inl (cA t, n, if t = 3 then .inr (.inl (σ.2.1 k)) else .inl (σ.2.2 k))
  | .inr (ci, fl) => .inr (ci, fl.mapIdx (fun j f => pm_fv ad σ k j f))
def pm_wd (ad : Nat → Nat) (cA : Nat → ClassId) (Y : pm_Y) (σ : pm_S) : va_W := Y.mapIdx (fun k c => (ad k, pm_cell ad cA σ k c))
theorem pm_wd_at {ad : Nat → Nat} {cA : Nat → ClassId} {Y : pm_Y} {σ : pm_S} {k : Nat} {c : (Nat × Nat) ⊕ (Nat × List Nat)} (h : Y[k]? = some c) : (pm_wd ad cA Y σ)[k]? = some (ad k, pm_cell ad cA σ k c) := by
  simp [pm_wd, List.getElem?_mapIdx, h]
theorem pm_fl_at {ad : Nat → Nat} {σ : pm_S} {k j f : Nat} {fl : List Nat} (h : fl[j]? = some f) : (fl.mapIdx (fun j f => pm_fv ad σ k j f))[j]? = some (pm_fv ad σ k j f) := by
  simp [List.getElem?_mapIdx, h]
/-- an int field is written -/
def pm_pi (σ : pm_S) (k j : Nat) (x : Int32) : pm_S := (fun a b => if a = k then (if b = j then x else σ.1 a b) else σ.1 a b, σ.2.1, σ.2.2)
def pm_pl (σ : pm_S) (k j : Nat) (x : Int64) : pm_S := (σ.1, fun a b => if a = k then (if b = j then x else σ.2.1 a b) else σ.2.1 a b, σ.2.2)
def pm_pr (σ : pm_S) (k : Nat) (f : Nat → Int32) : pm_S := (σ.1, σ.2.1, fun a => if a = k then f else σ.2.2 a)
theorem pm_wd_set {ad : Nat → Nat} {cA : Nat → ClassId} {Y : pm_Y} {σ σ' : pm_S} {k : Nat} {c : (Nat × Nat) ⊕ (Nat × List Nat)} {e : va_E} (h : Y[k]? = some c) (he : pm_cell ad cA σ' k c = e) (ho : ∀ a c', a ≠ k → pm_cell ad cA σ' a c' = pm_cell ad cA σ a c') : (pm_wd ad cA Y σ).set k (ad k, e) = pm_wd ad cA Y σ' := by
  apply List.ext_getElem?
  intro a
  by_cases ha : a = k
  · subst ha
    rw [pm_wd_at h, he, List.getElem?_set_self]
    have := (List.getElem?_eq_some_iff.mp (pm_wd_at (ad := ad) (cA := cA) (σ := σ) h)).1
    exact this
  · rw [List.getElem?_set_ne (Ne.symm ha)]
    simp only [pm_wd, List.getElem?_mapIdx]
    cases hY : Y[a]? with
    | none => rfl
    | some c' => simp [ho a c' ha]
theorem pm_fv_ne {ad : Nat → Nat} {σ σ' : pm_S} {k j f : Nat} (h1 : σ'.1 k j = σ.1 k j) (h2 : σ'.2.1 k j = σ.2.1 k j) : pm_fv ad σ' k j f = pm_fv ad σ k j f := by
  unfold pm_fv
  split
  · rw [h1]
  · rw [h2]
  · rfl
theorem pm_cell_ne {ad : Nat → Nat} {cA : Nat → ClassId} {σ σ' : pm_S} {a : Nat} {c : (Nat × Nat) ⊕ (Nat × List Nat)} (h1 : ∀ j, σ'.1 a j = σ.1 a j) (h2 : ∀ j, σ'.2.1 a j = σ.2.1 a j) (h3 : σ'.2.2 a = σ.2.2 a) : pm_cell ad cA σ' a c = pm_cell ad cA σ a c := by
  unfold pm_cell
  split
  · rw [h3, show σ'.2.1 a = σ.2.1 a from funext h2]
  · congr 2
    apply List.ext_getElem?
    intro j
    simp only [List.getElem?_mapIdx]
    rename_i ci fl
    cases hf : fl[j]? with
    | none => rfl
    | some f => simp [pm_fv_ne (h1 j) (h2 j)]
theorem pm_wd_pi {ad : Nat → Nat} {cA : Nat → ClassId} {Y : pm_Y} {σ : pm_S} {k ci j : Nat} {fl : List Nat} {x : Int32} (h : Y[k]? = some (.inr (ci, fl))) (hj : fl[j]? = some 0) : (pm_wd ad cA Y σ).set k (ad k, .inr (ci, (fl.mapIdx (fun j f => pm_fv ad σ k j f)).set j (.int x))) = pm_wd ad cA Y (pm_pi σ k j x) := by
  refine pm_wd_set h ?_ (fun a c' ha => pm_cell_ne (fun b => by simp [pm_pi, ha]) (fun b => rfl) rfl)
  show Sum.inr (ci, _) = _
  congr 2
  apply List.ext_getElem?
  intro b
  have hl : j < fl.length := (List.getElem?_eq_some_iff.mp hj).1
  by_cases hb : b = j
  · subst hb
    rw [List.getElem?_set_self (by simpa using hl), List.getElem?_mapIdx, hj]
    simp [pm_fv, pm_pi]
  · rw [List.getElem?_set_ne (Ne.symm hb)]
    simp only [List.getElem?_mapIdx]
    cases hf : fl[b]? with
    | none => rfl
    | some f => simp [pm_fv_ne (σ := σ) (σ' := pm_pi σ k j x) (k := k) (j := b) (by simp [pm_pi, hb]) rfl]
theorem pm_wd_pl {ad : Nat → Nat} {cA : Nat → ClassId} {Y : pm_Y} {σ : pm_S} {k ci j : Nat} {fl : List Nat} {x : Int64} (h : Y[k]? = some (.inr (ci, fl))) (hj : fl[j]? = some 1) : (pm_wd ad cA Y σ).set k (ad k, .inr (ci, (fl.mapIdx (fun j f => pm_fv ad σ k j f)).set j (.long x))) = pm_wd ad cA Y (pm_pl σ k j x) := by
  refine pm_wd_set h ?_ (fun a c' ha => pm_cell_ne (fun b => rfl) (fun b => by simp [pm_pl, ha]) rfl)
  show Sum.inr (ci, _) = _
  congr 2
  apply List.ext_getElem?
  intro b
  have hl : j < fl.length := (List.getElem?_eq_some_iff.mp hj).1
  by_cases hb : b = j
  · subst hb
    rw [List.getElem?_set_self (by simpa using hl), List.getElem?_mapIdx, hj]
    simp [pm_fv, pm_pl]
  · rw [List.getElem?_set_ne (Ne.symm hb)]
    simp only [List.getElem?_mapIdx]
    cases hf : fl[b]? with
    | none => rfl
    | some f => simp [pm_fv_ne (σ := σ) (σ' := pm_pl σ k j x) (k := k) (j := b) rfl (by simp [pm_pl, hb])]
def pm_plr (σ : pm_S) (k : Nat) (f : Nat → Int64) : pm_S := (σ.1, fun a => if a = k then f else σ.2.1 a, σ.2.2)
theorem pm_wd_plr {ad : Nat → Nat} {cA : Nat → ClassId} {Y : pm_Y} {σ : pm_S} {k n : Nat} {f : Nat → Int64} (h : Y[k]? = some (.inl (3, n))) : (pm_wd ad cA Y σ).set k (ad k, .inl (cA 3, n, .inr (.inl f))) = pm_wd ad cA Y (pm_plr σ k f) := by
  refine pm_wd_set h ?_ (fun a c' ha => pm_cell_ne (fun b => rfl) (fun b => by simp [pm_plr, ha]) rfl)
  simp [pm_cell, pm_plr]
theorem pm_wd_pr {ad : Nat → Nat} {cA : Nat → ClassId} {Y : pm_Y} {σ : pm_S} {k t n : Nat} {f : Nat → Int32} (h : Y[k]? = some (.inl (t, n))) (ht : t ≠ 3) : (pm_wd ad cA Y σ).set k (ad k, .inl (cA t, n, .inl f)) = pm_wd ad cA Y (pm_pr σ k f) := by
  refine pm_wd_set h ?_ (fun a c' ha => pm_cell_ne (fun b => rfl) (fun b => rfl) (by simp [pm_pr, ha]))
  simp [pm_cell, pm_pr, ht]
theorem pm_wd_at_arr {ad : Nat → Nat} {cA : Nat → ClassId} {Y : pm_Y} {σ : pm_S} {k t n : Nat} (h : Y[k]? = some (.inl (t, n))) (ht : t ≠ 3) : (pm_wd ad cA Y σ)[k]? = some (ad k, .inl (cA t, n, .inl (σ.2.2 k))) := by
  rw [pm_wd_at h]
  simp [pm_cell, ht]
theorem pm_wd_at_larr {ad : Nat → Nat} {cA : Nat → ClassId} {Y : pm_Y} {σ : pm_S} {k n : Nat} (h : Y[k]? = some (.inl (3, n))) : (pm_wd ad cA Y σ)[k]? = some (ad k, .inl (cA 3, n, .inr (.inl (σ.2.1 k)))) := by
  rw [pm_wd_at h]
  simp [pm_cell]
theorem pm_wd_at_obj {ad : Nat → Nat} {cA : Nat → ClassId} {Y : pm_Y} {σ : pm_S} {k ci : Nat} {fl : List Nat} (h : Y[k]? = some (.inr (ci, fl))) : (pm_wd ad cA Y σ)[k]? = some (ad k, .inr (ci, fl.mapIdx (fun j f => pm_fv ad σ k j f))) := pm_wd_at h
theorem pm_wd_D {ad : Nat → Nat} {cA : Nat → ClassId} {Y : pm_Y} {σ σ' : pm_S} {A : Nat → Prop} (h : va_D A (pm_wd ad cA Y σ)) : va_D A (pm_wd ad cA Y σ') := by
  have key : ∀ (k : Nat) (q : Nat × va_E), (pm_wd ad cA Y σ')[k]? = some q → ∃ q0, (pm_wd ad cA Y σ)[k]? = some q0 ∧ q0.1 = q.1 := by
    intro k q hk
    cases hY : Y[k]? with
    | none => simp [pm_wd, List.getElem?_mapIdx, hY] at hk
    | some c =>
      rw [pm_wd_at hY] at hk
      cases hk
      exact ⟨_, pm_wd_at hY, rfl⟩
  refine ⟨fun i j x y hi hj hxy => ?_, fun k q hk => ?_⟩
  · obtain ⟨x0, h1, h2⟩ := key i x hi
    obtain ⟨y0, h3, h4⟩ := key j y hj
    exact h.1 i j x0 y0 h1 h3 (h2.trans (hxy.trans h4.symm))
  · obtain ⟨q0, h1, h2⟩ := key k q hk
    rw [← h2]
    exact h.2 k q0 h1
theorem pm_wd_A {ad : Nat → Nat} {cA : Nat → ClassId} {Y : pm_Y} {σ σ' : pm_S} {sz q : Nat} : va_A (pm_wd ad cA Y σ) sz q ↔ va_A (pm_wd ad cA Y σ') sz q := by
  have key : ∀ τ : pm_S, va_A (pm_wd ad cA Y τ) sz q ↔ ((∃ k, k < Y.length ∧ ad k = q) ∨ sz ≤ q) := by
    intro τ
    constructor
    · rintro (⟨k, e, h⟩ | h)
      · refine Or.inl ⟨k, ?_⟩
        simp only [pm_wd, List.getElem?_mapIdx] at h
        cases hY : Y[k]? with
        | none => rw [hY] at h; cases h
        | some c =>
          rw [hY] at h
          simp at h
          exact ⟨(List.getElem?_eq_some_iff.mp hY).1, h.1⟩
      · exact Or.inr h
    · rintro (⟨k, h1, h2⟩ | h)
      · exact Or.inl ⟨k, _, by rw [pm_wd_at (List.getElem?_eq_getElem h1), h2]⟩
      · exact Or.inr h
  rw [key σ, key σ']
