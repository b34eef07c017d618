/-! THE TREE'S SHAPE: what stands below a node of each kind -/
def sh_p (x : pg_N) : hp_N := (x, x.1)
def sh_t (l : List pg_N) : List Nat := hp_t (l.map sh_p)
def sh_c (l : List pg_N) : Prop := hp_c (l.map sh_p)
def sh_E (k : Nat) : Prop := k = 6 ∨ (30 ≤ k ∧ k ≤ 36)
def sh_K (k : Nat) : Prop := k = 30 ∨ k = 31
def sh_B (k : Nat) : Prop := k = 12 ∨ k = 13 ∨ k = 15 ∨ k = 16 ∨ k = 19 ∨ k = 20 ∨ k = 21
def sh_b (k : Nat) : Prop := k = 11 ∨ k = 22
/-- E 11, again and again -/
def sh_if : List Nat → Prop
  | [e, b] => sh_E e ∧ b = 11
  | [e, b, x] => sh_E e ∧ b = 11 ∧ x = 11
  | e :: b :: x :: y :: l => sh_E e ∧ b = 11 ∧ sh_if (x :: y :: l)
  | _ => False
def sh_S (k : Nat) (w : List Nat) : Prop :=
  if k = 0 then ∀ x ∈ w, 1 ≤ x ∧ x ≤ 3
  else if k = 1 then ∃ u b, w = 8 :: (u ++ [b]) ∧ (∀ x ∈ u, x = 4) ∧ sh_b b
  else if k = 2 ∨ k = 3 then ∃ u b, w = u ++ [b] ∧ (∀ x ∈ u, x = 4) ∧ sh_b b
  else if k = 4 then ∀ x ∈ w, x = 5
  else if k = 5 then ∃ u p y i, w = 6 :: (u ++ (p ++ (y :: i))) ∧ (∀ x ∈ u, x = 6) ∧ (p = [] ∨ p = [7]) ∧ (y = 8 ∨ y = 9 ∨ y = 10) ∧ (i = [] ∨ ∃ e, sh_K e ∧ i = [e])
  else if k = 9 then ∃ a b, w = [a, b, 8] ∧ sh_K a ∧ sh_K b
  else if k = 11 then ∀ x ∈ w, sh_B x
  else if k = 12 then ∃ a e, w = [a, e] ∧ (a = 6 ∨ a = 32) ∧ sh_E e
  else if k = 13 then ∀ x ∈ w, x = 14
  else if k = 14 ∨ k = 32 ∨ k = 36 then ∃ e, w = [e] ∧ sh_E e
  else if k = 15 then ∃ u i, w = u ++ i ∧ sh_if u ∧ (i = [] ∨ i = [11]) ∧ ∃ m, u.length = 2 * m
  else if k = 16 then ∃ e u i, w = e :: (u ++ i) ∧ sh_E e ∧ (∀ x ∈ u, x = 17) ∧ (i = [] ∨ i = [11])
  else if k = 17 then ∃ u, w = 18 :: (u ++ [11]) ∧ ∀ x ∈ u, x = 18
  else if k = 18 then (∃ a, w = [a] ∧ sh_K a) ∨ ∃ a b, w = [a, b] ∧ sh_K a ∧ sh_K b
  else if k = 19 then ∃ a b i, w = a :: b :: (i ++ [11]) ∧ sh_K a ∧ sh_K b ∧ (i = [] ∨ ∃ e, sh_K e ∧ i = [e])
  else if k = 22 then ∀ x ∈ w, x = 23
  else if k = 23 then w ≠ [] ∧ ∀ x ∈ w, x = 24
  else if k = 24 then w ≠ [] ∧ ∀ x ∈ w, 25 ≤ x ∧ x ≤ 29
  else if k = 25 then w = [6] ∨ w = [33]
  else if k = 28 ∨ k = 33 then w = [6]
  else if k = 34 then ∀ x ∈ w, sh_E x
  else if k = 35 then ∃ a b, w = [a, b] ∧ sh_E a ∧ sh_E b
  else w = []
def sh_g (l : List pg_N) : Prop := sh_c l ∧ ∀ (j : Nat) (x : pg_N), l[j]? = some x → sh_S x.1 (sh_t ((l.drop (j + 1)).take (x.2.2.2 - 1)))
theorem sh_cI {l : List pg_N} : sh_c l ↔ tz_c l := by
  unfold sh_c
  rw [hp_c_iff]
  simp only [List.map_map, Function.comp_def, sh_p, List.map_id']
theorem sh_ta {l m : List pg_N} (h : sh_c l) : sh_t (l ++ m) = sh_t l ++ sh_t m := by
  unfold sh_t
  rw [List.map_append, hp_ta h]
theorem sh_tn {l : List pg_N} {x : pg_N} (h : x.2.2.2 = l.length + 1) : sh_t (x :: l) = [x.1] := by
  unfold sh_t
  rw [List.map_cons]
  exact hp_tn (x := sh_p x) (by rw [List.length_map]; exact h)
theorem sh_t0 : sh_t [] = [] := rfl
theorem sh_g0 : sh_g [] := ⟨fun j x h => by simp at h, fun j x h => by simp at h⟩
theorem sh_ga {l m : List pg_N} (h1 : sh_g l) (h2 : sh_g m) : sh_g (l ++ m) := by
  refine ⟨?_, fun j x h => ?_⟩
  · unfold sh_c
    rw [List.map_append]
    exact hp_ca h1.1 h2.1
  · have cl := sh_cI.mp h1.1
    by_cases q : j < l.length
    · rw [List.getElem?_append_left q] at h
      have hb := cl j x h
      rw [List.drop_append_of_le_length (by omega), List.take_append_of_le_length (by rw [List.length_drop]; omega)]
      exact h1.2 j x h
    · rw [List.getElem?_append_right (by omega)] at h
      have e : (l ++ m).drop (j + 1) = m.drop (j - l.length + 1) := by
        rw [List.drop_append, List.drop_eq_nil_of_le (by omega), List.nil_append]
        congr 1
        omega
      rw [e]
      exact h2.2 _ x h
theorem sh_gn {l : List pg_N} {k p : Nat} {v : Int32} (h : sh_g l) (hs : sh_S k (sh_t l)) : sh_g ((k, p, v, l.length + 1) :: l) := by
  refine ⟨?_, fun j x hx => ?_⟩
  · unfold sh_c
    rw [List.map_cons]
    exact hp_cn h.1 (by rw [List.length_map]; rfl)
  · cases j with
    | zero =>
      rw [List.getElem?_cons_zero] at hx
      cases hx
      rw [List.drop_succ_cons, List.drop_zero]
      show sh_S k (sh_t (l.take (l.length + 1 - 1)))
      rw [Nat.add_sub_cancel, List.take_length]
      exact hs
    | succ j =>
      rw [List.getElem?_cons_succ] at hx
      rw [List.drop_succ_cons]
      exact h.2 j x hx
/-- a parser's trees are good, and their roots so -/
def pg_H (T : pg_T) (φ : List Nat → Prop) (a : pg_P) : Prop := ∀ c, pg_live T (a c).1 → sh_g (a c).2 ∧ φ (sh_t (a c).2)
theorem pg_Hm {T : pg_T} {φ ψ : List Nat → Prop} {a : pg_P} (h : pg_H T φ a) (i : ∀ w, φ w → ψ w) : pg_H T ψ a := fun c z => ⟨(h c z).1, i _ (h c z).2⟩
theorem pg_Hnil (T : pg_T) : pg_H T (fun w => w = []) pg_nil := fun c _ => ⟨sh_g0, rfl⟩
theorem pg_Htok (T : pg_T) (f : pg_C → pg_C) : pg_H T (fun w => w = []) (pg_tok f) := fun c _ => ⟨sh_g0, rfl⟩
def sh_cat (φ ψ : List Nat → Prop) (w : List Nat) : Prop := ∃ u v, w = u ++ v ∧ φ u ∧ ψ v
theorem pg_Hseq {T : pg_T} {φ ψ : List Nat → Prop} {a b : pg_P} (ha : pg_H T φ a) (hb : pg_H T ψ b) (db : pg_D T b) : pg_H T (sh_cat φ ψ) (pg_seq a b) := fun c z => by
  have z1 := pg_bk db z
  obtain ⟨a1, a2⟩ := ha c z1
  obtain ⟨b1, b2⟩ := hb _ z
  exact ⟨sh_ga a1 b1, _, _, sh_ta a1.1, a2, b2⟩
theorem pg_Hts {T : pg_T} {ψ : List Nat → Prop} {f : pg_C → pg_C} {b : pg_P} (hb : pg_H T ψ b) : pg_H T ψ (pg_seq (pg_tok f) b) := fun c z => by
  have := hb (f c) z
  show sh_g ([] ++ (b (f c)).2) ∧ ψ (sh_t ([] ++ (b (f c)).2))
  rw [List.nil_append]
  exact this
theorem pg_Hst {T : pg_T} {φ : List Nat → Prop} {f : pg_C → pg_C} {a : pg_P} (ha : pg_H T φ a) (df : pg_F T f) : pg_H T φ (pg_seq a (pg_tok f)) := fun c z => by
  have := ha c (pg_fbk df z)
  show sh_g ((a c).2 ++ []) ∧ φ (sh_t ((a c).2 ++ []))
  rw [List.append_nil]
  exact this
theorem pg_Hite {T : pg_T} {p : pg_C → Bool} {φ : List Nat → Prop} {a b : pg_P} (ha : pg_H T φ a) (hb : pg_H T φ b) : pg_H T φ (pg_ite p a b) := fun c => by
  unfold pg_ite
  cases p c
  · exact hb c
  · exact ha c
theorem pg_Hnode {T : pg_T} {k : Nat} {pl : pg_C → Nat} {v : pg_C → Int32} {φ : List Nat → Prop} {a : pg_P} (ha : pg_H T φ a) (h : ∀ w, φ w → sh_S k w) : pg_H T (fun w => w = [k]) (pg_node k pl v a) := fun c z => by
  obtain ⟨a1, a2⟩ := ha c z
  exact ⟨sh_gn a1 (h _ a2), sh_tn rfl⟩
theorem pg_Hleaf {T : pg_T} {k : Nat} {v : pg_C → Int32} {f : pg_C → pg_C} (h : sh_S k []) : pg_H T (fun w => w = [k]) (pg_leaf T k v f) := fun c _ => ⟨sh_gn (l := []) sh_g0 h, sh_tn (l := []) rfl⟩
theorem pg_Hwhl {T : pg_T} {p : pg_C → Bool} {q : Nat → Prop} {a : pg_P} (hp : pg_G T p) (ha : pg_H T (fun w => ∀ x ∈ w, q x) a) : ∀ n, pg_H T (fun w => ∀ x ∈ w, q x) (pg_whl p a n)
  | 0 => pg_Hm (pg_Hnil T) (fun w h x hx => by rw [h] at hx; exact absurd hx List.not_mem_nil)
  | n + 1 => pg_Hite (pg_Hm (pg_Hseq ha (pg_Hwhl hp ha n) (pg_dwhl hp n)) (fun w ⟨u, v, e, h1, h2⟩ x hx => by
      rw [e] at hx
      rcases List.mem_append.mp hx with y | y
      · exact h1 x y
      · exact h2 x y)) (pg_Hm (pg_Hnil T) (fun w h x hx => by rw [h] at hx; exact absurd hx List.not_mem_nil))
theorem pg_Hsep {T : pg_T} {q : Nat → Prop} {a : pg_P} (da : pg_D T a) (ha : pg_H T (fun w => ∃ x, w = [x] ∧ q x) a) : ∀ n, pg_H T (fun w => ∀ x ∈ w, q x) (pg_sep T a n)
  | 0 => pg_Hm (pg_Hnil T) (fun w h x hx => by rw [h] at hx; exact absurd hx List.not_mem_nil)
  | n + 1 => pg_Hm (pg_Hseq (ψ := fun w => ∀ x ∈ w, q x) ha (pg_Hite (pg_Hts (pg_Hsep da ha n)) (pg_Hm (pg_Hnil T) (fun w h x hx => by rw [h] at hx; exact absurd hx List.not_mem_nil))) (pg_dite (pg_gis T (by decide)) (pg_dnil T))) (fun w ⟨u, v, e, ⟨y, h1, h1'⟩, h2⟩ x hx => by
      rw [e, h1] at hx
      rcases List.mem_append.mp hx with z | z
      · rw [List.mem_singleton.mp z]; exact h1'
      · exact h2 x z)
theorem pg_Hstop (T : pg_T) (φ : List Nat → Prop) : pg_H T φ (pg_tok pg_stop) := fun c z => absurd pg_stopd (pg_ld.mpr z)
theorem pg_Hname (T : pg_T) : pg_H T (fun w => w = [6]) (pg_name T) := pg_Hleaf rfl
theorem pg_Hsimple (T : pg_T) : pg_H T (fun w => w = [8]) (pg_simple T) := pg_Hite (pg_Hleaf rfl) (pg_Hstop T _)
theorem pg_Hconst (T : pg_T) : pg_H T (fun w => ∃ x, w = [x] ∧ sh_K x) (pg_const T) := by
  have h31 : ∀ (v : pg_C → Int32) (f : pg_C → pg_C), pg_H T (fun w => ∃ x, w = [x] ∧ sh_K x) (pg_leaf T 31 v f) := fun v f => pg_Hm (pg_Hleaf rfl) (fun w h => ⟨31, h, Or.inr rfl⟩)
  have h30 : ∀ (v : pg_C → Int32) (f : pg_C → pg_C), pg_H T (fun w => ∃ x, w = [x] ∧ sh_K x) (pg_leaf T 30 v f) := fun v f => pg_Hm (pg_Hleaf rfl) (fun w h => ⟨30, h, Or.inl rfl⟩)
  exact pg_Hite (h31 _ _) (pg_Hite (h30 _ _) (h30 _ _))
theorem sh_KE {k : Nat} (h : sh_K k) : sh_E k := by unfold sh_K at h; unfold sh_E; omega
def sh_e1 (w : List Nat) : Prop := ∃ e, w = [e] ∧ sh_E e
theorem pg_Hnout (T : pg_T) : pg_H T (fun w => w = [6] ∨ w = [33]) (pg_nout T) := fun c z => by
  unfold pg_nout pg_ite
  cases pg_is T 59 (pg_exp T 41 c)
  · exact ⟨sh_gn (l := []) sh_g0 rfl, Or.inl (sh_tn (l := []) rfl)⟩
  · refine ⟨sh_gn (l := [_]) (sh_gn (l := []) sh_g0 rfl) ?_, Or.inr (sh_tn (l := [_]) rfl)⟩
    rw [sh_tn (l := []) rfl]
    exact rfl
theorem pg_Helem {T : pg_T} {E : pg_P} (h : pg_H T sh_e1 E) (d : pg_D T E) : pg_H T (fun w => w = [32]) (pg_elem T E) := pg_Hnode (pg_Hts (pg_Hst h (pg_fcomp (f := pg_exp T 55) (pg_fexp T (by decide)) (pg_fdec T)))) (fun w h => h)
theorem pg_Hcall {T : pg_T} {E : pg_P} (h : pg_H T sh_e1 E) (d : pg_D T E) : pg_H T (fun w => w = [34]) (pg_call T E) := by
  have h1 : pg_H T (fun w => ∀ x ∈ w, sh_E x) (pg_ite (pg_is T 53) pg_nil (pg_sep T E pg_M)) := pg_Hite (pg_Hm (pg_Hnil T) (fun w h x hx => by rw [h] at hx; exact absurd hx List.not_mem_nil)) (pg_Hsep d h pg_M)
  unfold pg_call
  exact pg_Hnode (pg_Hts (pg_Hst h1 (pg_fcomp (f := pg_exp T 53) (pg_fexp T (by decide)) (pg_fdec T)))) (fun w h => h)
theorem pg_Hoper {T : pg_T} {X : Nat → pg_P} (h : ∀ m, pg_H T sh_e1 (X m)) (d : ∀ m, pg_D T (X m)) : pg_H T sh_e1 (pg_oper T X) := by
  have i : ∀ {k : Nat} (hk : 32 ≤ k ∧ k ≤ 36) {a : pg_P}, pg_H T (fun w => w = [k]) a → pg_H T sh_e1 a := fun hk _ ha => pg_Hm ha (fun w e => ⟨_, e, Or.inr (by omega)⟩)
  refine pg_Hite (i (k := 36) (by decide) (pg_Hnode (pg_Hts (pg_Hst (h 0) (pg_fdec T))) (fun w h => h))) (pg_Hite (pg_Hm (pg_Hconst T) (fun w ⟨x, e, hx⟩ => ⟨x, e, sh_KE hx⟩)) (pg_Hite (pg_Hts (pg_Hst (h 2) (pg_fcomp (f := pg_exp T 53) (pg_fexp T (by decide)) (pg_fdec T)))) (pg_Hite (pg_Hite (i (k := 32) (by decide) (pg_Helem (h 2) (d 2))) (pg_Hite (i (k := 34) (by decide) (pg_Hcall (h 2) (d 2))) (pg_Hm (pg_Hnout T) (fun w e => ?_)))) (pg_Hstop T _))))
  rcases e with e | e
  · exact ⟨6, e, Or.inl rfl⟩
  · exact ⟨33, e, Or.inr (by decide)⟩
theorem pg_Hmore {T : pg_T} {X : Nat → pg_P} (h : ∀ m, pg_H T sh_e1 (X m)) (d : ∀ m, pg_D T (X m)) (m : Nat) : ∀ (n : Nat) (c : pg_C) (s : List pg_N), sh_g s → sh_e1 (sh_t s) → pg_live T (pg_more T X m n c s).1 → sh_g (pg_more T X m n c s).2 ∧ sh_e1 (sh_t (pg_more T X m n c s).2)
  | 0, _, _, g, e, _ => ⟨g, e⟩
  | n + 1, c, s, g, e, q => by
    unfold pg_more at q ⊢
    revert q
    cases pg_sign (pg_k T c) with
    | none => intro _; exact ⟨g, e⟩
    | some s1 =>
      show pg_live T (if m ≤ pg_bind s1 + 2 then _ else _ : pg_C × List pg_N).1 → sh_g (if m ≤ pg_bind s1 + 2 then _ else _ : pg_C × List pg_N).2 ∧ sh_e1 (sh_t (if m ≤ pg_bind s1 + 2 then _ else _ : pg_C × List pg_N).2)
      by_cases w : m ≤ pg_bind s1 + 2
      · rw [if_pos w]
        intro q
        have h2 := pg_bkmore q
        obtain ⟨x1, x2⟩ := h _ _ h2
        have ga := sh_ga g x1
        obtain ⟨a, ea, ha⟩ := e
        obtain ⟨b, eb, hb⟩ := x2
        refine pg_Hmore h d m n _ _ (sh_gn ga ?_) ⟨35, sh_tn rfl, Or.inr (by decide)⟩ q
        rw [sh_ta g.1, ea, eb]
        exact ⟨a, b, rfl, ha, hb⟩
      · rw [if_neg w]
        intro _; exact ⟨g, e⟩
theorem pg_HX (T : pg_T) : ∀ f m, pg_H T sh_e1 (pg_X T f m)
  | 0, _ => pg_Hstop T _
  | f + 1, m => fun c z => by
    unfold pg_X at z ⊢
    by_cases q : m = 0
    · rw [if_pos q] at z ⊢
      exact pg_Hoper (pg_HX T f) (pg_dX T f) c z
    · rw [if_neg q] at z ⊢
      unfold pg_expr pg_rst at z ⊢
      have z' : pg_live T (pg_more T (pg_X T f) m pg_M (pg_X T f 0 c).1 (pg_X T f 0 c).2).1 := by
        by_cases w : m = 1
        · rw [if_pos w] at z; exact z
        · rw [if_neg w] at z; exact z
      have z0 := pg_bkmore z'
      obtain ⟨a1, a2⟩ := pg_HX T f 0 c z0
      exact pg_Hmore (pg_HX T f) (pg_dX T f) m pg_M _ _ a1 a2 z'
theorem pg_HE (T : pg_T) : pg_H T sh_e1 (pg_E T) := pg_HX T 200 1
theorem sh_al {q : Nat → Prop} {k : Nat} (h : q k) : ∀ w : List Nat, w = [k] → ∀ x ∈ w, q x := fun w e x hx => by rw [e] at hx; rw [List.mem_singleton.mp hx]; exact h
theorem pg_Harray (T : pg_T) : pg_H T (fun w => w = [9]) (pg_array T) := by
  have ds := pg_dtok (pg_fcomp (f := pg_exp T 15) (g := pg_exp T 55) (pg_fexp T (by decide)) (pg_fexp T (by decide)))
  have d0 := pg_dseq ds (pg_dsimple T)
  have d1 := pg_dseq (pg_dconst T) d0
  have d2 := pg_dseq (pg_dtok (pg_fexp T (k := 48) (by decide))) d1
  refine pg_Hnode (pg_Hts (pg_Hseq (pg_Hconst T) (pg_Hts (pg_Hseq (pg_Hconst T) (pg_Hts (pg_Hsimple T)) d0)) d2)) (fun w h => ?_)
  obtain ⟨u, v, e, ⟨a, ea, ha⟩, u2, v2, e2, ⟨b, eb, hb⟩, e3⟩ := h
  exact ⟨a, b, by rw [e, ea, e2, eb, e3]; rfl, ha, hb⟩
theorem pg_Hdecl (T : pg_T) : pg_H T (fun w => w = [5]) (pg_decl T) := by
  have hn : pg_H T (fun w => ∀ x ∈ w, x = 6) (pg_whl (pg_is T 56) (pg_seq (pg_tok pg_stp) (pg_name T)) pg_M) := pg_Hwhl (pg_gis T (by decide)) (pg_Hts (pg_Hm (pg_Hname T) (sh_al (q := fun x => x = 6) rfl))) pg_M
  have dw : pg_D T (pg_whl (pg_is T 56) (pg_seq (pg_tok pg_stp) (pg_name T)) pg_M) := pg_dwhl (pg_gis T (by decide)) pg_M
  unfold pg_decl
  generalize pg_whl (pg_is T 56) (pg_seq (pg_tok pg_stp) (pg_name T)) pg_M = W at *
  have hp : pg_H T (fun w => w = [] ∨ w = [7]) (pg_ite (pg_is T 10) (pg_seq (pg_tok pg_stp) (pg_leaf T 7 (pg_v T) (pg_exp T 43))) pg_nil) := pg_Hite (pg_Hts (pg_Hm (pg_Hleaf rfl) (fun w e => Or.inr e))) (pg_Hm (pg_Hnil T) (fun w e => Or.inl e))
  have hy : pg_H T (fun w => ∃ y, w = [y] ∧ (y = 8 ∨ y = 9 ∨ y = 10)) (pg_ite (pg_is T 14) (pg_array T) (pg_ite (pg_is T 41) (pg_leaf T 10 (pg_v T) pg_stp) (pg_simple T))) := pg_Hite (pg_Hm (pg_Harray T) (fun w e => ⟨9, e, Or.inr (Or.inl rfl)⟩)) (pg_Hite (pg_Hm (pg_Hleaf rfl) (fun w e => ⟨10, e, Or.inr (Or.inr rfl)⟩)) (pg_Hm (pg_Hsimple T) (fun w e => ⟨8, e, Or.inl rfl⟩)))
  have hi : pg_H T (fun w => w = [] ∨ ∃ e, sh_K e ∧ w = [e]) (pg_ite (pg_is T 47) (pg_seq (pg_tok pg_stp) (pg_const T)) pg_nil) := pg_Hite (pg_Hts (pg_Hm (pg_Hconst T) (fun w ⟨x, e, hx⟩ => Or.inr ⟨x, hx, e⟩))) (pg_Hm (pg_Hnil T) (fun w e => Or.inl e))
  have di : pg_D T (pg_ite (pg_is T 47) (pg_seq (pg_tok pg_stp) (pg_const T)) pg_nil) := pg_dite (pg_gis T (by decide)) (pg_dnil T)
  have dp : pg_D T (pg_ite (pg_is T 10) (pg_seq (pg_tok pg_stp) (pg_leaf T 7 (pg_v T) (pg_exp T 43))) pg_nil) := pg_dite (pg_gis T (by decide)) (pg_dnil T)
  have dy : pg_D T (pg_ite (pg_is T 14) (pg_array T) (pg_ite (pg_is T 41) (pg_leaf T 10 (pg_v T) pg_stp) (pg_simple T))) := pg_dite (pg_gis T (by decide)) (pg_dite (pg_gis T (by decide)) (pg_dsimple T))
  have de := pg_dtok (pg_fexp T (k := 57) (by decide))
  have d1 := pg_dseq di de
  have d2 := pg_dseq dy d1
  have d3 := pg_dseq (pg_dtok (pg_fexp T (k := 58) (by decide))) d2
  have d4 := pg_dseq dp d3
  have d5 := pg_dseq dw d4
  refine pg_Hnode (pg_Hseq (pg_Hname T) (pg_Hseq hn (pg_Hseq hp (pg_Hts (pg_Hseq hy (pg_Hst hi (pg_fexp T (k := 57) (by decide))) d1)) d3) d4) d5) (fun w h => ?_)
  obtain ⟨u0, v0, e0, h0, u1, v1, e1, h1, u2, v2, e2, h2, u3, v3, e3, ⟨y, ey, hy⟩, h3⟩ := h
  exact ⟨u1, u2, y, v3, by rw [e0, h0, e1, e2, e3, ey]; rfl, h1, h2, hy, h3⟩
theorem pg_Hsect (T : pg_T) : pg_H T (fun w => w = [4]) (pg_sect T) := by
  have h := pg_Hwhl (T := T) (q := fun x => x = 5) (pg_gis T (k := 41) (by decide)) (pg_Hm (pg_Hdecl T) (sh_al (q := fun x => x = 5) rfl)) pg_M
  unfold pg_sect
  exact pg_Hnode (pg_Hts (pg_Hst h (pg_fexp T (by decide)))) (fun w h => h)
theorem pg_Hbody {T : pg_T} {B : pg_P} (h : pg_H T (fun w => ∀ x ∈ w, sh_B x) B) : pg_H T (fun w => w = [11]) (pg_body T B) := pg_Hnode h (fun w h => h)
theorem pg_Htarg (T : pg_T) : pg_H T (fun w => w = [6] ∨ w = [32]) (pg_targ T) := pg_Hite (pg_Hm (pg_Helem (pg_HE T) (pg_dE T)) (fun w e => Or.inr e)) (pg_Hm (pg_Hname T) (fun w e => Or.inl e))
theorem pg_Hasg (T : pg_T) : pg_H T (fun w => w = [12]) (pg_asg T) := fun c z => by
  have dt : pg_D T (pg_tok (pg_exp T 47)) := pg_dtok (pg_fexp T (by decide))
  have z1 : pg_live T (pg_exp T 47 (pg_targ T c).1) := pg_bk (pg_dE T) z
  have z2 := pg_fbk (pg_fexp T (by decide)) z1
  obtain ⟨a1, a2⟩ := pg_Htarg T c z2
  obtain ⟨b1, b2⟩ := pg_HE T _ z
  unfold pg_asg
  refine ⟨sh_gn (sh_ga a1 b1) ?_, sh_tn rfl⟩
  obtain ⟨e, ee, he⟩ := b2
  rw [sh_ta a1.1, ee]
  rcases a2 with a2 | a2
  · rw [a2]; exact ⟨6, e, rfl, Or.inl rfl, he⟩
  · rw [a2]; exact ⟨32, e, rfl, Or.inr rfl, he⟩
theorem pg_Hpar (T : pg_T) : pg_H T (fun w => w = [14]) (pg_par T) := pg_Hnode (pg_Hts (pg_HE T)) (fun w h => h)
theorem pg_Hinv (T : pg_T) : pg_H T (fun w => w = [13]) (pg_inv T) := by
  have h1 : pg_H T (fun w => ∀ x ∈ w, x = 14) (pg_ite (pg_is T 53) pg_nil (pg_sep T (pg_par T) pg_M)) := pg_Hite (pg_Hm (pg_Hnil T) (fun w h x hx => by rw [h] at hx; exact absurd hx List.not_mem_nil)) (pg_Hsep (q := fun x => x = 14) (pg_dpar T) (pg_Hm (pg_Hpar T) (fun w e => ⟨14, e, rfl⟩)) pg_M)
  unfold pg_inv
  exact pg_Hnode (pg_Hts (pg_Hst h1 (pg_fcomp (f := pg_exp T 53) (pg_fexp T (by decide)) (pg_fdec T)))) (fun w h => h)
theorem pg_Hcond {T : pg_T} {B : pg_P} (h : pg_H T (fun w => ∀ x ∈ w, sh_B x) B) (d : pg_D T B) : pg_H T (fun w => ∃ e, w = [e, 11] ∧ sh_E e) (pg_cond T B) := pg_Hm (pg_Hseq (pg_HE T) (pg_Hts (pg_Hbody h)) (pg_dseq (pg_dtok (pg_fexp T (by decide))) (pg_dbody d))) (fun w ⟨u, v, e, ⟨x, ex, hx⟩, hv⟩ => ⟨x, by rw [e, ex, hv]; rfl, hx⟩)
theorem sh_ifa : ∀ (u : List Nat) (e : Nat) (m : Nat), u.length = 2 * m → sh_if u → sh_E e → sh_if (e :: 11 :: u)
  | [], e, m, _, h, _ => h.elim
  | [a], e, m, hl, h, he => h.elim
  | [a, b], e, m, _, h, he => ⟨he, rfl, h⟩
  | a :: b :: c :: u, e, m, _, h, he => ⟨he, rfl, h⟩
def sh_cs (w : List Nat) : Prop := w = [] ∨ (sh_if w ∧ ∃ m, w.length = 2 * m)
theorem pg_Hcs {T : pg_T} {B : pg_P} (h : pg_H T (fun w => ∀ x ∈ w, sh_B x) B) (d : pg_D T B) : ∀ n, pg_H T sh_cs (pg_whl (pg_is T 18) (pg_seq (pg_tok pg_stp) (pg_cond T B)) n)
  | 0 => pg_Hm (pg_Hnil T) (fun w e => Or.inl e)
  | n + 1 => pg_Hite (pg_Hm (pg_Hseq (pg_Hts (pg_Hcond h d)) (pg_Hcs h d n) (pg_dwhl (pg_gis T (by decide)) n)) (fun w ⟨u, v, e, ⟨x, ex, hx⟩, hv⟩ => by
      rw [ex] at e
      rcases hv with hv | ⟨hv, m, hm⟩
      · rw [hv] at e
        exact Or.inr ⟨by rw [e]; exact ⟨hx, rfl⟩, 1, by rw [e]; rfl⟩
      · exact Or.inr ⟨by rw [e]; exact sh_ifa v x m hm hv hx, m + 1, by rw [e]; show v.length + 1 + 1 = _; omega⟩)) (pg_Hm (pg_Hnil T) (fun w e => Or.inl e))
theorem pg_Helse {T : pg_T} {B : pg_P} (h : pg_H T (fun w => ∀ x ∈ w, sh_B x) B) : pg_H T (fun w => w = [] ∨ w = [11]) (pg_else T B) := pg_Hite (pg_Hts (pg_Hm (pg_Hbody h) (fun w e => Or.inr e))) (pg_Hm (pg_Hnil T) (fun w e => Or.inl e))
theorem pg_Hif {T : pg_T} {B : pg_P} (h : pg_H T (fun w => ∀ x ∈ w, sh_B x) B) (d : pg_D T B) : pg_H T (fun w => w = [15]) (pg_if T B) := by
  have hw := pg_Hcs h d pg_M
  have dw : pg_D T (pg_whl (pg_is T 18) (pg_seq (pg_tok pg_stp) (pg_cond T B)) pg_M) := pg_dwhl (pg_gis T (by decide)) pg_M
  unfold pg_if
  generalize pg_whl (pg_is T 18) (pg_seq (pg_tok pg_stp) (pg_cond T B)) pg_M = W at *
  have de : pg_F T (fun c => pg_dec (pg_exp T 20 c)) := pg_fcomp (f := pg_dec) (pg_fdec T) (pg_fexp T (by decide))
  have d1 := pg_dseq (pg_delse (T := T) (B := B)) (pg_dtok de)
  refine pg_Hnode (pg_Hts (pg_Hseq (pg_Hcond h d) (pg_Hseq hw (pg_Hst (pg_Helse h) de) d1) (pg_dseq dw d1))) (fun w hh => ?_)
  obtain ⟨u0, v0, e0, ⟨x, ex, hx⟩, u1, v1, e1, h1, h2⟩ := hh
  rcases h1 with h1 | ⟨h1, m, hm⟩
  · exact ⟨[x, 11], v1, by rw [e0, ex, e1, h1]; rfl, ⟨hx, rfl⟩, h2, 1, rfl⟩
  · exact ⟨x :: 11 :: u1, v1, by rw [e0, ex, e1]; rfl, sh_ifa u1 x m hm h1 hx, h2, m + 1, by show u1.length + 1 + 1 = _; omega⟩
theorem pg_Hrange (T : pg_T) : pg_H T (fun w => w = [18]) (pg_range T) := by
  have hi : pg_H T (fun w => w = [] ∨ ∃ e, sh_K e ∧ w = [e]) (pg_ite (pg_is T 48) (pg_seq (pg_tok pg_stp) (pg_const T)) pg_nil) := pg_Hite (pg_Hts (pg_Hm (pg_Hconst T) (fun w ⟨x, e, hx⟩ => Or.inr ⟨x, hx, e⟩))) (pg_Hm (pg_Hnil T) (fun w e => Or.inl e))
  refine pg_Hnode (pg_Hseq (pg_Hconst T) hi (pg_dite (pg_gis T (by decide)) (pg_dnil T))) (fun w hh => ?_)
  obtain ⟨u, v, e, ⟨a, ea, ha⟩, hv⟩ := hh
  rcases hv with hv | ⟨b, hb, hv⟩
  · exact Or.inl ⟨a, by rw [e, ea, hv]; rfl, ha⟩
  · exact Or.inr ⟨a, b, by rw [e, ea, hv]; rfl, ha, hb⟩
theorem pg_Hsep1 {T : pg_T} {k : Nat} {a : pg_P} (da : pg_D T a) (ha : pg_H T (fun w => w = [k]) a) (n : Nat) : pg_H T (fun w => ∃ u, w = k :: u ∧ ∀ x ∈ u, x = k) (pg_sep T a (n + 1)) :=
  pg_Hm (pg_Hseq (ψ := fun w => ∀ x ∈ w, x = k) ha (pg_Hite (pg_Hts (pg_Hsep (q := fun x => x = k) da (pg_Hm ha (fun w e => ⟨k, e, rfl⟩)) n)) (pg_Hm (pg_Hnil T) (fun w h x hx => by rw [h] at hx; exact absurd hx List.not_mem_nil))) (pg_dite (pg_gis T (by decide)) (pg_dnil T))) (fun w ⟨u, v, e, h1, h2⟩ => ⟨v, by rw [e, h1]; rfl, h2⟩)
theorem pg_Hchoice {T : pg_T} {B : pg_P} (h : pg_H T (fun w => ∀ x ∈ w, sh_B x) B) (d : pg_D T B) : pg_H T (fun w => w = [17]) (pg_choice T B) := by
  have hs : pg_H T (fun w => ∃ u, w = 18 :: u ∧ ∀ x ∈ u, x = 18) (pg_sep T (pg_range T) pg_M) := pg_Hsep1 (pg_drange T) (pg_Hrange T) 8191
  unfold pg_choice
  generalize pg_sep T (pg_range T) pg_M = W at *
  refine pg_Hnode (pg_Hseq hs (pg_Hts (pg_Hbody h)) (pg_dseq (pg_dtok (pg_fexp T (by decide))) (pg_dbody d))) (fun w hh => ?_)
  obtain ⟨u, v, e, ⟨u2, e2, h2⟩, hv⟩ := hh
  exact ⟨u2, by rw [e, e2, hv]; rfl, h2⟩
theorem pg_Hcase {T : pg_T} {B : pg_P} (h : pg_H T (fun w => ∀ x ∈ w, sh_B x) B) (d : pg_D T B) : pg_H T (fun w => w = [16]) (pg_case T B) := by
  have hw := pg_Hwhl (T := T) (q := fun x => x = 17) (pg_gany T (ks := [42, 61, 35, 36]) (by decide)) (pg_Hm (pg_Hchoice h d) (sh_al (q := fun x => x = 17) rfl)) pg_M
  have dw : pg_D T (pg_whl (pg_any T [42, 61, 35, 36]) (pg_choice T B) pg_M) := pg_dwhl (pg_gany T (by decide)) pg_M
  unfold pg_case
  generalize pg_whl (pg_any T [42, 61, 35, 36]) (pg_choice T B) pg_M = W at *
  have de : pg_F T (fun c => pg_dec (pg_exp T 22 c)) := pg_fcomp (f := pg_dec) (pg_fdec T) (pg_fexp T (by decide))
  have d1 := pg_dseq (pg_delse (T := T) (B := B)) (pg_dtok de)
  have d2 := pg_dseq dw d1
  refine pg_Hnode (pg_Hts (pg_Hseq (pg_HE T) (pg_Hts (pg_Hseq hw (pg_Hst (pg_Helse h) de) d1)) (pg_dseq (pg_dtok (pg_fexp T (by decide))) d2))) (fun w hh => ?_)
  obtain ⟨u0, v0, e0, ⟨x, ex, hx⟩, u1, v1, e1, h1, h2⟩ := hh
  exact ⟨x, u1, v1, by rw [e0, ex, e1]; rfl, hx, h1, h2⟩
theorem pg_Hfor {T : pg_T} {B : pg_P} (h : pg_H T (fun w => ∀ x ∈ w, sh_B x) B) (d : pg_D T B) : pg_H T (fun w => w = [19]) (pg_for T B) := by
  have hi : pg_H T (fun w => w = [] ∨ ∃ e, sh_K e ∧ w = [e]) (pg_ite (pg_is T 25) (pg_seq (pg_tok pg_stp) (pg_const T)) pg_nil) := pg_Hite (pg_Hts (pg_Hm (pg_Hconst T) (fun w ⟨x, e, hx⟩ => Or.inr ⟨x, hx, e⟩))) (pg_Hm (pg_Hnil T) (fun w e => Or.inl e))
  have di : pg_D T (pg_ite (pg_is T 25) (pg_seq (pg_tok pg_stp) (pg_const T)) pg_nil) := pg_dite (pg_gis T (by decide)) (pg_dnil T)
  have de : pg_F T (fun c => pg_dec (pg_exp T 27 c)) := pg_fcomp (f := pg_dec) (pg_fdec T) (pg_fexp T (by decide))
  have d1 := pg_dseq (pg_dbody d) (pg_dtok de)
  have d2 := pg_dseq (pg_dtok (pg_fexp T (k := 26) (by decide))) d1
  have d3 := pg_dseq di d2
  have d4 := pg_dseq (pg_dconst T) d3
  have d5 := pg_dseq (pg_dtok (pg_fexp T (k := 24) (by decide))) d4
  unfold pg_for
  refine pg_Hnode (pg_Hts (pg_Hseq (pg_Hconst T) (pg_Hts (pg_Hseq (pg_Hconst T) (pg_Hseq hi (pg_Hts (pg_Hst (pg_Hbody h) de)) d2) d3)) d5)) (fun w hh => ?_)
  obtain ⟨u0, v0, e0, ⟨a, ea, ha⟩, u1, v1, e1, ⟨b, eb, hb⟩, u2, v2, e2, h2, h3⟩ := hh
  exact ⟨a, b, u2, by rw [e0, ea, e1, eb, e2, h3]; rfl, ha, hb, h2⟩
theorem pg_Hstmt {T : pg_T} {B : pg_P} (h : pg_H T (fun w => ∀ x ∈ w, sh_B x) B) (d : pg_D T B) : pg_H T (fun w => ∀ x ∈ w, sh_B x) (pg_stmt T B) := by
  have i : ∀ {k : Nat} {a : pg_P}, sh_B k → pg_H T (fun w => w = [k]) a → pg_H T (fun w => ∀ x ∈ w, sh_B x) a := fun hk ha => pg_Hm ha (sh_al (q := sh_B) hk)
  unfold pg_stmt
  exact pg_Hst (pg_Hite (pg_Hm (pg_Hnil T) (fun w h x hx => by rw [h] at hx; exact absurd hx List.not_mem_nil)) (pg_Hite (pg_Hite (i (by unfold sh_B; decide) (pg_Hinv T)) (i (by unfold sh_B; decide) (pg_Hasg T))) (pg_Hite (i (by unfold sh_B; decide) (pg_Hif h d)) (pg_Hite (i (by unfold sh_B; decide) (pg_Hcase h d)) (pg_Hite (i (by unfold sh_B; decide) (pg_Hfor h d)) (pg_Hite (i (k := 20) (by unfold sh_B; decide) (pg_Hleaf rfl)) (i (k := 21) (by unfold sh_B; decide) (pg_Hleaf rfl)))))))) (pg_fexp T (by decide))
theorem pg_HB (T : pg_T) : ∀ f, pg_H T (fun w => ∀ x ∈ w, sh_B x) (pg_B T f)
  | 0 => pg_Hm (pg_Hnil T) (fun w h x hx => by rw [h] at hx; exact absurd hx List.not_mem_nil)
  | f + 1 => pg_Hwhl (pg_gany T (by decide)) (pg_Hstmt (pg_HB T f) (pg_dB T f)) pg_M
def sh_ce (x : Nat) : Prop := 25 ≤ x ∧ x ≤ 29
theorem pg_Hcell (T : pg_T) : pg_H T (fun w => ∃ x, w = [x] ∧ sh_ce x) (pg_cell T) := by
  have i : ∀ {k : Nat} {a : pg_P}, sh_ce k → pg_H T (fun w => w = [k]) a → pg_H T (fun w => ∃ x, w = [x] ∧ sh_ce x) a := fun hk ha => pg_Hm ha (fun w e => ⟨_, e, hk⟩)
  unfold pg_cell
  refine pg_Hite (i (k := 26) (by unfold sh_ce; decide) (pg_Hleaf rfl)) (pg_Hite (i (k := 27) (by unfold sh_ce; decide) (pg_Hleaf rfl)) (pg_Hite (i (k := 28) (by unfold sh_ce; decide) ?_) (i (k := 25) (by unfold sh_ce; decide) ?_)))
  · exact pg_Hnode (pg_Hts (pg_Hst (pg_Hname T) (pg_fexp T (by decide)))) (fun w h => h)
  · exact pg_Hnode (pg_Hts (pg_Hnout T)) (fun w h => h)
theorem pg_Hcells (T : pg_T) : ∀ n, pg_H T (fun w => ∀ x ∈ w, sh_ce x) (pg_cells T n)
  | 0 => pg_Hm (pg_Hnil T) (fun w h x hx => by rw [h] at hx; exact absurd hx List.not_mem_nil)
  | n + 1 => by
    have hr : pg_H T (fun w => ∀ x ∈ w, sh_ce x) (pg_ite (pg_is T 68) (pg_seq (pg_leaf T 29 (fun _ => 0) pg_stp) (pg_cells T n)) (pg_ite (pg_isc T) (pg_cells T n) pg_nil)) := by
      refine pg_Hite (pg_Hm (pg_Hseq (pg_Hleaf (k := 29) rfl) (pg_Hcells T n) (pg_dcells T n)) (fun w ⟨u, v, e, h1, h2⟩ x hx => ?_)) (pg_Hite (pg_Hcells T n) (pg_Hm (pg_Hnil T) (fun w h x hx => by rw [h] at hx; exact absurd hx List.not_mem_nil)))
      rw [e, h1] at hx
      rcases List.mem_append.mp hx with z | z
      · rw [List.mem_singleton.mp z]; unfold sh_ce; decide
      · exact h2 x z
    refine pg_Hm (pg_Hseq (pg_Hcell T) hr (pg_dite (pg_gis T (by decide)) (pg_dite (pg_gany T (by decide)) (pg_dnil T)))) (fun w ⟨u, v, e, ⟨y, h1, h1'⟩, h2⟩ x hx => ?_)
    rw [e, h1] at hx
    rcases List.mem_append.mp hx with z | z
    · rw [List.mem_singleton.mp z]; exact h1'
    · exact h2 x z
theorem pg_Hcells1 (T : pg_T) (n : Nat) : pg_H T (fun w => w ≠ [] ∧ ∀ x ∈ w, sh_ce x) (pg_cells T (n + 1)) := fun c z => by
  have h1 := pg_Hcells T (n + 1) c z
  refine ⟨h1.1, fun e => ?_, h1.2⟩
  have hr : pg_D T (pg_ite (pg_is T 68) (pg_seq (pg_leaf T 29 (fun _ => 0) pg_stp) (pg_cells T n)) (pg_ite (pg_isc T) (pg_cells T n) pg_nil)) := pg_dite (pg_gis T (by decide)) (pg_dite (pg_gany T (by decide)) (pg_dnil T))
  have z1 : pg_live T (pg_cell T c).1 := pg_bk hr z
  obtain ⟨g1, y, e1, _⟩ := pg_Hcell T c z1
  have e2 : sh_t (pg_cells T (n + 1) c).2 = sh_t (pg_cell T c).2 ++ sh_t ((pg_ite (pg_is T 68) (pg_seq (pg_leaf T 29 (fun _ => 0) pg_stp) (pg_cells T n)) (pg_ite (pg_isc T) (pg_cells T n) pg_nil)) (pg_cell T c).1).2 := sh_ta g1.1
  rw [e2, e1] at e
  cases e
theorem pg_Hrow (T : pg_T) : pg_H T (fun w => w = [24]) (pg_row T) := by
  have h : pg_H T (fun w => w ≠ [] ∧ ∀ x ∈ w, sh_ce x) (pg_cells T pg_M) := pg_Hcells1 T 8191
  unfold pg_row
  exact pg_Hnode (pg_Hst h (pg_fexp T (by decide))) (fun w h => h)
theorem pg_Hrung (T : pg_T) : pg_H T (fun w => w = [23]) (pg_rung T) := by
  have hw := pg_Hwhl (T := T) (q := fun x => x = 24) (pg_gany T (ks := [63, 66, 65, 41, 61, 62, 52]) (by decide)) (pg_Hm (pg_Hrow T) (sh_al (q := fun x => x = 24) rfl)) pg_M
  have dw : pg_D T (pg_whl (pg_isc T) (pg_row T) pg_M) := pg_dwhl (pg_gany T (by decide)) pg_M
  have hw : pg_H T (fun w => ∀ x ∈ w, x = 24) (pg_whl (pg_isc T) (pg_row T) pg_M) := hw
  unfold pg_rung
  generalize pg_whl (pg_isc T) (pg_row T) pg_M = W at *
  refine pg_Hnode (pg_Hts (pg_Hseq (pg_Hrow T) (pg_Hst hw (pg_fexp T (k := 40) (by decide))) (pg_dseq dw (pg_dtok (pg_fexp T (by decide)))))) (fun w hh => ?_)
  obtain ⟨u, v, e, h1, h2⟩ := hh
  show w ≠ [] ∧ ∀ x ∈ w, x = 24
  rw [e, h1]
  refine ⟨(fun y => (by cases y)), fun x hx => ?_⟩
  rcases List.mem_append.mp hx with z | z
  · exact List.mem_singleton.mp z
  · exact h2 x z
theorem pg_Hladd (T : pg_T) : pg_H T (fun w => w = [22]) (pg_ladd T) := by
  have h := pg_Hwhl (T := T) (q := fun x => x = 23) (pg_gis T (k := 39) (by decide)) (pg_Hm (pg_Hrung T) (sh_al (q := fun x => x = 23) rfl)) pg_M
  unfold pg_ladd
  exact pg_Hnode (pg_Hts (pg_Hst h (pg_fexp T (by decide)))) (fun w h => h)
theorem pg_Hblock {T : pg_T} {c : pg_C} (hc : pg_any T [0, 2, 4] c = true) (z : pg_live T (pg_block T c).1) : sh_g (pg_block T c).2 ∧ ∀ x ∈ sh_t (pg_block T c).2, 1 ≤ x ∧ x ≤ 3 := by
  have hw := pg_Hwhl (T := T) (q := fun x => x = 4) (pg_gany T (ks := [6, 7, 8]) (by decide)) (pg_Hm (pg_Hsect T) (sh_al (q := fun x => x = 4) rfl)) pg_M
  have dw : pg_D T (pg_whl (pg_any T [6, 7, 8]) (pg_sect T) pg_M) := pg_dwhl (pg_gany T (by decide)) pg_M
  have hx : pg_H T (fun w => ∃ b, w = [b] ∧ sh_b b) (pg_ite (pg_is T 37) (pg_ladd T) (pg_body T (pg_B T 100))) := pg_Hite (pg_Hm (pg_Hladd T) (fun w e => ⟨22, e, Or.inr rfl⟩)) (pg_Hm (pg_Hbody (pg_HB T 100)) (fun w e => ⟨11, e, Or.inl rfl⟩))
  have dx : pg_D T (pg_ite (pg_is T 37) (pg_ladd T) (pg_body T (pg_B T 100))) := pg_dite (pg_gis T (by decide)) (pg_dbody (pg_dB T 100))
  have hk : pg_k T c = 0 ∨ pg_k T c = 2 ∨ pg_k T c = 4 := by unfold pg_any at hc; simpa using hc
  have de : pg_F T (pg_exp T (pg_k T c + 1)) := pg_fexp T (by omega)
  unfold pg_block at z ⊢
  generalize pg_whl (pg_any T [6, 7, 8]) (pg_sect T) pg_M = W at *
  generalize pg_ite (pg_is T 37) (pg_ladd T) (pg_body T (pg_B T 100)) = X at *
  have d1 := pg_dseq dx (pg_dtok de)
  have d2 := pg_dseq dw d1
  have fin : ∀ k, 1 ≤ k ∧ k ≤ 3 → ∀ w, w = [k] → ∀ x ∈ w, 1 ≤ x ∧ x ≤ 3 := fun k hk w e => sh_al (q := fun x => 1 ≤ x ∧ x ≤ 3) hk w e
  by_cases q : pg_is T 0 c = true
  · rw [if_pos q] at z ⊢
    have hk0 := pg_isk q
    have H := pg_Hnode (T := T) (k := pg_k T c / 2 + 1) (pl := pg_pl T) (v := fun c => pg_v T (pg_stp c)) (pg_Hts (f := fun c => pg_exp T 41 (pg_stp c)) (pg_Hseq (pg_Hts (f := pg_exp T 58) (pg_Hsimple T)) (pg_Hseq hw (pg_Hst hx de) d1) d2)) (fun w hh => by
      obtain ⟨u0, v0, e0, h0, u1, v1, e1, h1, b, h2, h3⟩ := hh
      rw [hk0]
      exact ⟨u1, b, by rw [e0, h0, e1, h2]; rfl, h1, h3⟩)
    exact ⟨(H c z).1, fin _ (by omega) _ (H c z).2⟩
  · rw [if_neg q] at z ⊢
    have H := pg_Hnode (T := T) (k := pg_k T c / 2 + 1) (pl := pg_pl T) (v := fun c => pg_v T (pg_stp c)) (pg_Hts (f := fun c => pg_exp T 41 (pg_stp c)) (pg_Hseq (pg_Hnil T) (pg_Hseq hw (pg_Hst hx de) d1) d2)) (fun w hh => by
      obtain ⟨u0, v0, e0, h0, u1, v1, e1, h1, b, h2, h3⟩ := hh
      have hk2 : pg_k T c / 2 + 1 = 2 ∨ pg_k T c / 2 + 1 = 3 := by
        rcases hk with y | y | y
        · exact absurd (by unfold pg_is; rw [y]; rfl) q
        · left; omega
        · right; omega
      unfold sh_S
      rw [if_neg (by omega), if_neg (by omega), if_pos hk2]
      exact ⟨u1, b, by rw [e0, h0, e1, h2]; rfl, h1, h3⟩)
    exact ⟨(H c z).1, fin _ (by omega) _ (H c z).2⟩
theorem pg_Hblocks (T : pg_T) : ∀ n, pg_H T (fun w => ∀ x ∈ w, 1 ≤ x ∧ x ≤ 3) (pg_whl (pg_any T [0, 2, 4]) (pg_block T) n)
  | 0 => pg_Hm (pg_Hnil T) (fun w h x hx => by rw [h] at hx; exact absurd hx List.not_mem_nil)
  | n + 1 => fun c z => by
    rw [pg_whl_c] at z ⊢
    by_cases q : pg_any T [0, 2, 4] c = true
    · rw [if_pos q] at z ⊢
      have z1 : pg_live T (pg_block T c).1 := pg_bk (pg_dwhl (pg_gany T (by decide)) n) z
      obtain ⟨a1, a2⟩ := pg_Hblock q z1
      obtain ⟨b1, b2⟩ := pg_Hblocks T n _ z
      refine ⟨sh_ga a1 b1, fun x hx => ?_⟩
      have hx : x ∈ sh_t ((pg_block T c).2 ++ (pg_whl (pg_any T [0, 2, 4]) (pg_block T) n (pg_block T c).1).2) := hx
      rw [sh_ta a1.1] at hx
      rcases List.mem_append.mp hx with y | y
      · exact a2 x y
      · exact b2 x y
    · rw [if_neg q]
      exact ⟨sh_g0, fun x hx => absurd hx List.not_mem_nil⟩
theorem pg_Htext {T : pg_T} {n : Nat} {c : pg_C} (z : pg_live T (pg_whl (pg_any T [0, 2, 4]) (pg_block T) n c).1) (p : Nat) (v : Int32) : sh_g ((0, p, v, (pg_whl (pg_any T [0, 2, 4]) (pg_block T) n c).2.length + 1) :: (pg_whl (pg_any T [0, 2, 4]) (pg_block T) n c).2) := by
  obtain ⟨a1, a2⟩ := pg_Hblocks T n c z
  exact sh_gn a1 a2
