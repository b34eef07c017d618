/-! THE GRAMMAR: what is read from a state on (token's number, 0 live / 1 refused / 2 too deep, how many are open), and the nodes that come of it -/
abbrev pg_N := Nat × Nat × Int32 × Nat
def pg_M : Nat := 8192
abbrev pg_C := Nat × Nat × Nat
abbrev pg_P := pg_C → pg_C × List pg_N
/-- kinds, places, values of the tokens -/
abbrev pg_T := (Nat → Nat) × (Nat → Nat) × (Nat → Nat)
def pg_k (T : pg_T) (c : pg_C) : Nat := if c.2.1 = 0 then T.1 c.1 else 46
def pg_pl (T : pg_T) (c : pg_C) : Nat := T.2.1 c.1
def pg_v (T : pg_T) (c : pg_C) : Int32 := nI (T.2.2 c.1)
def pg_is (T : pg_T) (k : Nat) (c : pg_C) : Bool := pg_k T c == k
def pg_stop (c : pg_C) : pg_C := (c.1, if c.2.1 = 0 then 1 else c.2.1, c.2.2)
def pg_exp (T : pg_T) (k : Nat) (c : pg_C) : pg_C := if pg_k T c = k then (c.1 + 1, c.2.1, c.2.2) else pg_stop c
def pg_stp (c : pg_C) : pg_C := if c.2.1 = 0 then (c.1 + 1, c.2.1, c.2.2) else c
def pg_opn (c : pg_C) : pg_C := if c.2.2 < 60 then (c.1 + 1, c.2.1, c.2.2 + 1) else (c.1, 2, c.2.2)
def pg_dec (c : pg_C) : pg_C := (c.1, c.2.1, c.2.2 - 1)
/-- combining -/
def pg_nil : pg_P := fun c => (c, [])
def pg_tok (f : pg_C → pg_C) : pg_P := fun c => (f c, [])
def pg_seq (a b : pg_P) : pg_P := fun c => ((b (a c).1).1, (a c).2 ++ (b (a c).1).2)
def pg_ite (p : pg_C → Bool) (a b : pg_P) : pg_P := fun c => if p c then a c else b c
def pg_node (k : Nat) (p : pg_C → Nat) (v : pg_C → Int32) (a : pg_P) : pg_P := fun c => ((a c).1, (k, p c, v c, (a c).2.length + 1) :: (a c).2)
def pg_leaf (T : pg_T) (k : Nat) (v : pg_C → Int32) (f : pg_C → pg_C) : pg_P := fun c => (f c, [(k, pg_pl T c, v c, 1)])
/-- while p, at most so often -/
def pg_whl (p : pg_C → Bool) (a : pg_P) : Nat → pg_P
  | 0 => pg_nil
  | n + 1 => pg_ite p (pg_seq a (pg_whl p a n)) pg_nil
/-- with commas between -/
def pg_sep (T : pg_T) (a : pg_P) : Nat → pg_P
  | 0 => pg_nil
  | n + 1 => pg_seq a (pg_ite (pg_is T 56) (pg_seq (pg_tok pg_stp) (pg_sep T a n)) pg_nil)
def pg_any (T : pg_T) (ks : List Nat) (c : pg_C) : Bool := ks.contains (pg_k T c)
/-- declarations -/
def pg_name (T : pg_T) : pg_P := pg_leaf T 6 (pg_v T) (pg_exp T 41)
def pg_simple (T : pg_T) : pg_P := pg_ite (pg_any T [11, 12, 13]) (pg_leaf T 8 (fun c => nI (pg_k T c - 11)) pg_stp) (pg_tok pg_stop)
def pg_const (T : pg_T) : pg_P := pg_ite (pg_any T [35, 36]) (pg_leaf T 31 (fun c => if pg_is T 35 c then 1 else 0) pg_stp)
  (pg_ite (pg_is T 61) (pg_leaf T 30 (fun c => - pg_v T (pg_stp c)) (fun c => pg_exp T 42 (pg_stp c))) (pg_leaf T 30 (pg_v T) (pg_exp T 42)))
def pg_array (T : pg_T) : pg_P := pg_node 9 (pg_pl T) (fun _ => 0) (pg_seq (pg_tok (fun c => pg_exp T 54 (pg_stp c))) (pg_seq (pg_const T) (pg_seq (pg_tok (pg_exp T 48)) (pg_seq (pg_const T) (pg_seq (pg_tok (fun c => pg_exp T 15 (pg_exp T 55 c))) (pg_simple T))))))
def pg_decl (T : pg_T) : pg_P := pg_node 5 (pg_pl T) (fun _ => 0)
  (pg_seq (pg_name T) (pg_seq (pg_whl (pg_is T 56) (pg_seq (pg_tok pg_stp) (pg_name T)) pg_M)
  (pg_seq (pg_ite (pg_is T 10) (pg_seq (pg_tok pg_stp) (pg_leaf T 7 (pg_v T) (pg_exp T 43))) pg_nil)
  (pg_seq (pg_tok (pg_exp T 58))
  (pg_seq (pg_ite (pg_is T 14) (pg_array T) (pg_ite (pg_is T 41) (pg_leaf T 10 (pg_v T) pg_stp) (pg_simple T)))
  (pg_seq (pg_ite (pg_is T 47) (pg_seq (pg_tok pg_stp) (pg_const T)) pg_nil)
  (pg_tok (pg_exp T 57))))))))
def pg_sect (T : pg_T) : pg_P := pg_node 4 (pg_pl T) (fun c => nI (pg_k T c - 6)) (pg_seq (pg_tok pg_stp) (pg_seq (pg_whl (pg_is T 41) (pg_decl T) pg_M) (pg_tok (pg_exp T 9))))
/-- expressions -/
def pg_sign (k : Nat) : Option Nat :=
  if k = 30 then some 0 else if k = 31 then some 1 else if k = 32 ∨ k = 67 then some 2 else if k = 64 then some 3 else if k = 51 then some 4 else if k = 65 then some 5 else if k = 66 then some 6 else if k = 49 then some 7 else if k = 50 then some 8 else if k = 60 then some 9 else if k = 61 then some 10 else if k = 62 then some 11 else if k = 63 then some 12 else if k = 33 then some 13 else none
def pg_bind (s : Nat) : Nat := if s < 3 then s else if s < 5 then 3 else if s < 9 then 4 else if s < 11 then 5 else 6
def pg_next (T : pg_T) (k : Nat) (c : pg_C) : Bool := T.1 (c.1 + 1) == k
def pg_nout (T : pg_T) : pg_P := fun c => pg_ite (pg_is T 59) (fun c' => ((pg_exp T 41 (pg_stp c')), [(33, pg_pl T c, pg_v T c, 2), (6, pg_pl T (pg_stp c'), pg_v T (pg_stp c'), 1)])) (fun c' => (c', [(6, pg_pl T c, pg_v T c, 1)])) (pg_exp T 41 c)
/-- a name with an index; E reads the index -/
def pg_elem (T : pg_T) (E : pg_P) : pg_P := pg_node 32 (pg_pl T) (pg_v T) (pg_seq (pg_tok (fun c => pg_opn (pg_stp c))) (pg_seq E (pg_tok (fun c => pg_exp T 55 (pg_dec c)))))
def pg_call (T : pg_T) (E : pg_P) : pg_P := pg_node 34 (pg_pl T) (pg_v T) (pg_seq (pg_tok (fun c => pg_opn (pg_stp c))) (pg_seq (pg_ite (pg_is T 53) pg_nil (pg_sep T E pg_M)) (pg_tok (fun c => pg_exp T 53 (pg_dec c)))))
/-- an operand; X 0 reads an operand, X (c + 2) an expression of closeness c -/
def pg_oper (T : pg_T) (X : Nat → pg_P) : pg_P :=
  pg_ite (pg_any T [61, 34]) (pg_node 36 (pg_pl T) (fun c => if pg_is T 34 c then 1 else 0) (pg_seq (pg_tok pg_opn) (pg_seq (X 0) (pg_tok pg_dec))))
  (pg_ite (pg_any T [42, 35, 36]) (pg_const T)
  (pg_ite (pg_is T 52) (pg_seq (pg_tok pg_opn) (pg_seq (X 2) (pg_tok (fun c => pg_exp T 53 (pg_dec c)))))
  (pg_ite (pg_is T 41) (pg_ite (pg_next T 54) (pg_elem T (X 2)) (pg_ite (pg_next T 52) (pg_call T (X 2)) (pg_nout T)))
  (pg_tok pg_stop))))
/-- what comes behind an operand s: signs that bind at least as close as m - 2 -/
def pg_more (T : pg_T) (X : Nat → pg_P) (m : Nat) : Nat → pg_C → List pg_N → pg_C × List pg_N
  | 0, c, s => (c, s)
  | n + 1, c, s => match pg_sign (pg_k T c) with
    | none => (c, s)
    | some g => if m ≤ pg_bind g + 2 then
        pg_more T X m n (X (pg_bind g + 3) (pg_opn c)).1 ((35, pg_pl T c, nI g, (s ++ (X (pg_bind g + 3) (pg_opn c)).2).length + 1) :: (s ++ (X (pg_bind g + 3) (pg_opn c)).2))
      else (c, s)
def pg_rst (m o : Nat) (r : pg_C × List pg_N) : pg_C × List pg_N := (if m = 1 then (r.1.1, r.1.2.1, o) else r.1, r.2)
def pg_expr (T : pg_T) (X : Nat → pg_P) (m : Nat) : pg_P := fun c => pg_rst m c.2.2 (pg_more T X m pg_M (X 0 c).1 (X 0 c).2)
def pg_X (T : pg_T) : Nat → Nat → pg_P
  | 0, _ => pg_tok pg_stop
  | f + 1, m => if m = 0 then pg_oper T (pg_X T f) else pg_expr T (pg_X T f) m
def pg_E (T : pg_T) : pg_P := pg_X T 200 1
/-- statements; B reads a body's statements -/
def pg_body (T : pg_T) (B : pg_P) : pg_P := pg_node 11 (fun c => if 0 < c.1 then T.2.1 (c.1 - 1) else 0) (fun _ => 0) B
def pg_targ (T : pg_T) : pg_P := pg_ite (pg_next T 54) (pg_elem T (pg_E T)) (pg_name T)
def pg_asg (T : pg_T) : pg_P := fun c => ((pg_E T (pg_exp T 47 (pg_targ T c).1)).1, (12, pg_pl T (pg_targ T c).1, 0, ((pg_targ T c).2 ++ (pg_E T (pg_exp T 47 (pg_targ T c).1)).2).length + 1) :: ((pg_targ T c).2 ++ (pg_E T (pg_exp T 47 (pg_targ T c).1)).2))
def pg_inv (T : pg_T) : pg_P := pg_node 13 (pg_pl T) (pg_v T) (pg_seq (pg_tok (fun c => pg_opn (pg_stp c))) (pg_seq
  (pg_ite (pg_is T 53) pg_nil (pg_sep T (pg_node 14 (pg_pl T) (pg_v T) (pg_seq (pg_tok (fun c => pg_exp T 47 (pg_exp T 41 c))) (pg_E T))) pg_M))
  (pg_tok (fun c => pg_exp T 53 (pg_dec c)))))
def pg_else (T : pg_T) (B : pg_P) : pg_P := pg_ite (pg_is T 19) (pg_seq (pg_tok pg_stp) (pg_body T B)) pg_nil
def pg_cond (T : pg_T) (B : pg_P) : pg_P := pg_seq (pg_E T) (pg_seq (pg_tok (pg_exp T 17)) (pg_body T B))
def pg_if (T : pg_T) (B : pg_P) : pg_P := pg_node 15 (pg_pl T) (fun _ => 0) (pg_seq (pg_tok pg_opn) (pg_seq (pg_cond T B)
  (pg_seq (pg_whl (pg_is T 18) (pg_seq (pg_tok pg_stp) (pg_cond T B)) pg_M)
  (pg_seq (pg_else T B) (pg_tok (fun c => pg_dec (pg_exp T 20 c)))))))
def pg_range (T : pg_T) : pg_P := pg_node 18 (pg_pl T) (fun _ => 0) (pg_seq (pg_const T) (pg_ite (pg_is T 48) (pg_seq (pg_tok pg_stp) (pg_const T)) pg_nil))
def pg_choice (T : pg_T) (B : pg_P) : pg_P := pg_node 17 (pg_pl T) (fun _ => 0) (pg_seq (pg_sep T (pg_range T) pg_M) (pg_seq (pg_tok (pg_exp T 58)) (pg_body T B)))
def pg_case (T : pg_T) (B : pg_P) : pg_P := pg_node 16 (pg_pl T) (fun _ => 0) (pg_seq (pg_tok pg_opn) (pg_seq (pg_E T) (pg_seq (pg_tok (pg_exp T 15))
  (pg_seq (pg_whl (pg_any T [42, 61, 35, 36]) (pg_choice T B) pg_M) (pg_seq (pg_else T B) (pg_tok (fun c => pg_dec (pg_exp T 22 c))))))))
def pg_for (T : pg_T) (B : pg_P) : pg_P := pg_node 19 (pg_pl T) (fun c => pg_v T (pg_opn c)) (pg_seq (pg_tok (fun c => pg_exp T 47 (pg_exp T 41 (pg_opn c))))
  (pg_seq (pg_const T) (pg_seq (pg_tok (pg_exp T 24)) (pg_seq (pg_const T) (pg_seq (pg_ite (pg_is T 25) (pg_seq (pg_tok pg_stp) (pg_const T)) pg_nil)
  (pg_seq (pg_tok (pg_exp T 26)) (pg_seq (pg_body T B) (pg_tok (fun c => pg_dec (pg_exp T 27 c))))))))))
def pg_stmt (T : pg_T) (B : pg_P) : pg_P :=
  pg_seq (pg_ite (pg_is T 57) pg_nil (pg_ite (pg_is T 41) (pg_ite (pg_next T 52) (pg_inv T) (pg_asg T))
    (pg_ite (pg_is T 16) (pg_if T B) (pg_ite (pg_is T 21) (pg_case T B) (pg_ite (pg_is T 23) (pg_for T B)
    (pg_ite (pg_is T 28) (pg_leaf T 20 (fun _ => 0) pg_stp) (pg_leaf T 21 (fun _ => 0) pg_stp)))))))
    (pg_tok (pg_exp T 57))
def pg_B (T : pg_T) : Nat → pg_P
  | 0 => pg_nil
  | f + 1 => pg_whl (pg_any T [57, 41, 16, 21, 23, 28, 29]) (pg_stmt T (pg_B T f)) pg_M
/-- ladders -/
def pg_mark (T : pg_T) (x y z : Nat) (c : pg_C) : Nat := if pg_is T x c then 1 else if pg_is T y c then 2 else if pg_is T z c then 3 else 0
def pg_skm (T : pg_T) (x y z : Nat) (c : pg_C) : pg_C := if pg_mark T x y z c = 0 then c else pg_stp c
def pg_cont (T : pg_T) : pg_P := pg_node 25 (pg_pl T) (fun c => nI (pg_mark T 63 66 65 c)) (pg_seq (pg_tok (pg_skm T 63 66 65)) (pg_nout T))
def pg_coil (T : pg_T) : pg_P := pg_node 28 (pg_pl T) (fun c => nI (pg_mark T 63 60 61 (pg_stp c))) (pg_seq (pg_tok (fun c => pg_skm T 63 60 61 (pg_stp c))) (pg_seq (pg_name T) (pg_tok (pg_exp T 53))))
def pg_cell (T : pg_T) : pg_P := pg_ite (pg_is T 61) (pg_leaf T 26 (fun _ => 0) pg_stp) (pg_ite (pg_is T 62) (pg_leaf T 27 (fun _ => 0) pg_stp) (pg_ite (pg_is T 52) (pg_coil T) (pg_cont T)))
def pg_isc (T : pg_T) : pg_C → Bool := pg_any T [63, 66, 65, 41, 61, 62, 52]
def pg_cells (T : pg_T) : Nat → pg_P
  | 0 => pg_nil
  | n + 1 => pg_seq (pg_cell T) (pg_ite (pg_is T 68) (pg_seq (pg_leaf T 29 (fun _ => 0) pg_stp) (pg_cells T n)) (pg_ite (pg_isc T) (pg_cells T n) pg_nil))
def pg_row (T : pg_T) : pg_P := pg_node 24 (pg_pl T) (fun _ => 0) (pg_seq (pg_cells T pg_M) (pg_tok (pg_exp T 57)))
def pg_rung (T : pg_T) : pg_P := pg_node 23 (pg_pl T) (fun _ => 0) (pg_seq (pg_tok pg_stp) (pg_seq (pg_row T) (pg_seq (pg_whl (pg_isc T) (pg_row T) pg_M) (pg_tok (pg_exp T 40)))))
def pg_ladd (T : pg_T) : pg_P := pg_node 22 (pg_pl T) (fun _ => 0) (pg_seq (pg_tok pg_stp) (pg_seq (pg_whl (pg_is T 39) (pg_rung T) pg_M) (pg_tok (pg_exp T 38))))
/-- blocks -/
def pg_block (T : pg_T) : pg_P := fun c => pg_node (pg_k T c / 2 + 1) (pg_pl T) (fun c => pg_v T (pg_stp c)) (pg_seq (pg_tok (fun c => pg_exp T 41 (pg_stp c)))
  (pg_seq (if pg_is T 0 c then pg_seq (pg_tok (pg_exp T 58)) (pg_simple T) else pg_nil) (pg_seq (pg_whl (pg_any T [6, 7, 8]) (pg_sect T) pg_M)
  (pg_seq (pg_ite (pg_is T 37) (pg_ladd T) (pg_body T (pg_B T 100))) (pg_tok (pg_exp T (pg_k T c + 1))))))) c
def pg_text (T : pg_T) : pg_P := pg_node 0 (fun _ => 0) (fun _ => 0) (pg_whl (pg_any T [0, 2, 4]) (pg_block T) pg_M)

/-- refused, too deep, or before a token badly written: no token is taken any more -/
def pg_dead (T : pg_T) (c : pg_C) : Prop := c.2.1 ≠ 0 ∨ T.1 c.1 = 45
def pg_deq (c c' : pg_C) : Prop := c'.1 = c.1 ∧ (c'.2.1 = c.2.1 ∨ (c.2.1 = 0 ∧ c'.2.1 = 1))
theorem pg_deq_r (c : pg_C) : pg_deq c c := ⟨rfl, Or.inl rfl⟩
theorem pg_deq_t {a b c : pg_C} (h1 : pg_deq a b) (h2 : pg_deq b c) : pg_deq a c := by
  obtain ⟨h1, h1'⟩ := h1
  obtain ⟨h2, h2'⟩ := h2
  refine ⟨h2.trans h1, ?_⟩
  rcases h1' with h1' | h1' <;> rcases h2' with h2' | h2' <;> omega
theorem pg_deq_d {T : pg_T} {c c' : pg_C} (h : pg_dead T c) (q : pg_deq c c') : pg_dead T c' := by
  obtain ⟨q, q'⟩ := q
  unfold pg_dead at *
  rw [q]
  rcases h with h | h <;> rcases q' with q' | q' <;> omega
def pg_D (T : pg_T) (a : pg_P) : Prop := ∀ c, pg_dead T c → pg_deq c (a c).1
def pg_F (T : pg_T) (f : pg_C → pg_C) : Prop := ∀ c, pg_dead T c → pg_deq c (f c)
def pg_G (T : pg_T) (p : pg_C → Bool) : Prop := ∀ c, pg_dead T c → p c = false
theorem pg_kd {T : pg_T} {c : pg_C} (h : pg_dead T c) : pg_k T c = 46 ∨ pg_k T c = 45 := by
  unfold pg_k
  rcases h with h | h
  · rw [if_neg h]; exact Or.inl rfl
  · by_cases q : c.2.1 = 0
    · rw [if_pos q]; exact Or.inr h
    · rw [if_neg q]; exact Or.inl rfl
theorem pg_gis (T : pg_T) {k : Nat} (hk : k ≠ 46 ∧ k ≠ 45) : pg_G T (pg_is T k) := fun c h => by
  unfold pg_is
  rcases pg_kd h with e | e <;> rw [e] <;> simp <;> omega
theorem pg_gany (T : pg_T) {ks : List Nat} (hk : ks.contains 46 = false ∧ ks.contains 45 = false) : pg_G T (pg_any T ks) := fun c h => by
  unfold pg_any
  rcases pg_kd h with e | e <;> rw [e]
  · exact hk.1
  · exact hk.2
theorem pg_fstop (T : pg_T) : pg_F T pg_stop := fun c _ => by
  refine ⟨rfl, ?_⟩
  unfold pg_stop
  by_cases q : c.2.1 = 0
  · exact Or.inr ⟨q, if_pos q⟩
  · exact Or.inl (if_neg q)
theorem pg_fexp (T : pg_T) {k : Nat} (hk : k ≠ 46 ∧ k ≠ 45) : pg_F T (pg_exp T k) := fun c h => by
  unfold pg_exp
  rw [if_neg]
  · exact pg_fstop T c h
  · rcases pg_kd h with e | e <;> rw [e] <;> omega
theorem pg_fdec (T : pg_T) : pg_F T pg_dec := fun _ _ => ⟨rfl, Or.inl rfl⟩
theorem pg_fcomp {T : pg_T} {f g : pg_C → pg_C} (hf : pg_F T f) (hg : pg_F T g) : pg_F T (fun c => f (g c)) := fun c h => pg_deq_t (hg c h) (hf _ (pg_deq_d h (hg c h)))
theorem pg_dtok {T : pg_T} {f : pg_C → pg_C} (h : pg_F T f) : pg_D T (pg_tok f) := h
theorem pg_dnil (T : pg_T) : pg_D T pg_nil := fun c _ => pg_deq_r c
theorem pg_dseq {T : pg_T} {a b : pg_P} (ha : pg_D T a) (hb : pg_D T b) : pg_D T (pg_seq a b) := fun c h => pg_deq_t (ha c h) (hb _ (pg_deq_d h (ha c h)))
theorem pg_dite {T : pg_T} {p : pg_C → Bool} {a b : pg_P} (hp : pg_G T p) (hb : pg_D T b) : pg_D T (pg_ite p a b) := fun c h => by
  unfold pg_ite
  rw [hp c h]
  exact hb c h
theorem pg_dite2 {T : pg_T} {p : pg_C → Bool} {a b : pg_P} (ha : pg_D T a) (hb : pg_D T b) : pg_D T (pg_ite p a b) := fun c h => by
  unfold pg_ite
  cases p c
  · exact hb c h
  · exact ha c h
theorem pg_dnode {T : pg_T} {k : Nat} {p : pg_C → Nat} {v : pg_C → Int32} {a : pg_P} (ha : pg_D T a) : pg_D T (pg_node k p v a) := ha
theorem pg_dleaf {T : pg_T} {k : Nat} {v : pg_C → Int32} {f : pg_C → pg_C} (hf : pg_F T f) : pg_D T (pg_leaf T k v f) := hf
theorem pg_dwhl {T : pg_T} {p : pg_C → Bool} {a : pg_P} (hp : pg_G T p) : ∀ n, pg_D T (pg_whl p a n)
  | 0 => pg_dnil T
  | _ + 1 => pg_dite hp (pg_dnil T)
theorem pg_dsep {T : pg_T} {a : pg_P} (ha : pg_D T a) : ∀ n, pg_D T (pg_sep T a n)
  | 0 => pg_dnil T
  | _ + 1 => pg_dseq ha (pg_dite (pg_gis T (by decide)) (pg_dnil T))
theorem pg_dname (T : pg_T) : pg_D T (pg_name T) := pg_dleaf (pg_fexp T (by decide))
theorem pg_dsimple (T : pg_T) : pg_D T (pg_simple T) := pg_dite (pg_gany T (by decide)) (pg_dtok (pg_fstop T))
theorem pg_dconst (T : pg_T) : pg_D T (pg_const T) := pg_dite (pg_gany T (by decide)) (pg_dite (pg_gis T (by decide)) (pg_dleaf (pg_fexp T (by decide))))
theorem pg_dnout (T : pg_T) : pg_D T (pg_nout T) := fun c h => by
  have h1 := pg_fexp T (k := 41) (by decide) c h
  have h2 := pg_deq_d h h1
  unfold pg_nout pg_ite
  rw [pg_gis T (k := 59) (by decide) _ h2]
  exact h1
theorem pg_doper (T : pg_T) (X : Nat → pg_P) : pg_D T (pg_oper T X) :=
  pg_dite (pg_gany T (by decide)) (pg_dite (pg_gany T (by decide)) (pg_dite (pg_gis T (by decide)) (pg_dite (pg_gis T (by decide)) (pg_dtok (pg_fstop T)))))
theorem pg_gsign {T : pg_T} {c : pg_C} (h : pg_dead T c) : pg_sign (pg_k T c) = none := by
  rcases pg_kd h with e | e <;> rw [e] <;> rfl
theorem pg_dmore {T : pg_T} {X : Nat → pg_P} {m : Nat} : ∀ (n : Nat) (c : pg_C) (s : List pg_N), pg_dead T c → pg_more T X m n c s = (c, s)
  | 0, _, _, _ => rfl
  | n + 1, c, s, h => by
    unfold pg_more
    rw [pg_gsign h]
theorem pg_dX (T : pg_T) : ∀ f m, pg_D T (pg_X T f m)
  | 0, _ => pg_dtok (pg_fstop T)
  | f + 1, m => fun c h => by
    unfold pg_X
    by_cases q : m = 0
    · rw [if_pos q]
      exact pg_doper T _ c h
    · rw [if_neg q]
      have h1 := pg_dX T f 0 c h
      unfold pg_expr pg_rst
      rw [pg_dmore _ _ _ (pg_deq_d h h1)]
      by_cases q : m = 1
      · rw [if_pos q]; exact h1
      · rw [if_neg q]; exact h1
theorem pg_dE (T : pg_T) : pg_D T (pg_E T) := pg_dX T 200 1
theorem pg_dB (T : pg_T) : ∀ f, pg_D T (pg_B T f)
  | 0 => pg_dnil T
  | _ + 1 => pg_dwhl (pg_gany T (by decide)) _

def pg_live (T : pg_T) (c : pg_C) : Prop := c.2.1 = 0 ∧ T.1 c.1 ≠ 45
theorem pg_ld {T : pg_T} {c : pg_C} : ¬ pg_dead T c ↔ pg_live T c := by
  unfold pg_dead pg_live
  omega
theorem pg_bk {T : pg_T} {a : pg_P} (h : pg_D T a) {c : pg_C} (q : pg_live T (a c).1) : pg_live T c := by
  rw [← pg_ld] at q ⊢
  exact fun z => q (pg_deq_d z (h c z))
theorem pg_fbk {T : pg_T} {f : pg_C → pg_C} (h : pg_F T f) {c : pg_C} (q : pg_live T (f c)) : pg_live T c := pg_bk (a := pg_tok f) h q
theorem pg_exl {T : pg_T} {k : Nat} {c : pg_C} (hk : k ≠ 46 ∧ k ≠ 45) (h : pg_live T (pg_exp T k c)) : pg_live T c ∧ T.1 c.1 = k ∧ pg_exp T k c = (c.1 + 1, c.2.1, c.2.2) := by
  have h0 := pg_fbk (pg_fexp T hk) h
  refine ⟨h0, ?_⟩
  unfold pg_exp at *
  by_cases q : pg_k T c = k
  · rw [if_pos q]
    unfold pg_k at q
    rw [if_pos h0.1] at q
    exact ⟨q, rfl⟩
  · rw [if_neg q] at h
    unfold pg_stop at h
    rw [if_pos h0.1] at h
    exact absurd h.1 (by decide : ¬ (1 : Nat) = 0)
/-- what is open doesn't fall -/
def pg_O (T : pg_T) (a : pg_P) : Prop := ∀ c, pg_live T (a c).1 → c.2.2 ≤ (a c).1.2.2
theorem pg_oexp {T : pg_T} {k : Nat} {c : pg_C} : (pg_exp T k c).2.2 = c.2.2 := by
  unfold pg_exp pg_stop
  split <;> rfl
theorem pg_ostp {c : pg_C} : (pg_stp c).2.2 = c.2.2 := by
  unfold pg_stp
  split <;> rfl
theorem pg_lopn {T : pg_T} {c : pg_C} (h : pg_live T (pg_opn c)) : c.2.2 < 60 ∧ c.2.1 = 0 ∧ pg_opn c = (c.1 + 1, c.2.1, c.2.2 + 1) := by
  unfold pg_opn at *
  by_cases q : c.2.2 < 60
  · rw [if_pos q] at h ⊢
    exact ⟨q, h.1, rfl⟩
  · rw [if_neg q] at h
    exact absurd h.1 (by decide : ¬ (2 : Nat) = 0)
theorem pg_onil (T : pg_T) : pg_O T pg_nil := fun _ _ => Nat.le_refl _
theorem pg_oseq {T : pg_T} {a b : pg_P} (ha : pg_O T a) (hb : pg_O T b) (db : pg_D T b) : pg_O T (pg_seq a b) := fun c h => Nat.le_trans (ha c (pg_bk db h)) (hb _ h)
theorem pg_oite {T : pg_T} {p : pg_C → Bool} {a b : pg_P} (ha : pg_O T a) (hb : pg_O T b) : pg_O T (pg_ite p a b) := fun c h => by
  unfold pg_ite at *
  revert h
  cases p c
  · exact hb c
  · exact ha c
theorem pg_onode {T : pg_T} {k : Nat} {p : pg_C → Nat} {v : pg_C → Int32} {a : pg_P} (ha : pg_O T a) : pg_O T (pg_node k p v a) := ha
theorem pg_oeq {T : pg_T} {f : pg_C → pg_C} (h : ∀ c, (f c).2.2 = c.2.2) : pg_O T (pg_tok f) := fun c _ => Nat.le_of_eq (h c).symm
theorem pg_oleaf {T : pg_T} {k : Nat} {v : pg_C → Int32} {f : pg_C → pg_C} (h : ∀ c, (f c).2.2 = c.2.2) : pg_O T (pg_leaf T k v f) := fun c _ => Nat.le_of_eq (h c).symm
theorem pg_obrk {T : pg_T} {g f : pg_C → pg_C} {a : pg_P} (ha : pg_O T a) (da : pg_D T a) (hg : ∀ c, (g c).2.2 = c.2.2) (hf : ∀ c, (f c).2.2 = c.2.2 - 1) (df : pg_F T f) : pg_O T (pg_seq (pg_tok (fun c => pg_opn (g c))) (pg_seq a (pg_tok f))) := fun c h => by
  have h1 : pg_live T (a (pg_opn (g c))).1 := pg_fbk df h
  have h2 := ha _ h1
  have h3 := (pg_lopn (pg_bk da h1)).2.2
  have h4 := hf (a (pg_opn (g c))).1
  show c.2.2 ≤ (f (a (pg_opn (g c))).1).2.2
  rw [h4]
  have h5 : (pg_opn (g c)).2.2 = (g c).2.2 + 1 := by rw [h3]
  have := hg c
  omega
theorem pg_oconst (T : pg_T) : pg_O T (pg_const T) := pg_oite (pg_oleaf (fun _ => pg_ostp)) (pg_oite (pg_oleaf (fun _ => pg_oexp.trans pg_ostp)) (pg_oleaf (fun _ => pg_oexp)))
theorem pg_onout (T : pg_T) : pg_O T (pg_nout T) := fun c h => by
  unfold pg_nout pg_ite at *
  revert h
  cases pg_is T 59 (pg_exp T 41 c)
  · intro _; exact Nat.le_of_eq pg_oexp.symm
  · intro _; exact Nat.le_of_eq (pg_oexp.trans (pg_ostp.trans pg_oexp)).symm
theorem pg_osep {T : pg_T} {a : pg_P} (ha : pg_O T a) (da : pg_D T a) : ∀ n, pg_O T (pg_sep T a n)
  | 0 => pg_onil T
  | n + 1 => pg_oseq ha (pg_oite (pg_oseq (pg_oeq (fun _ => pg_ostp)) (pg_osep ha da n) (pg_dsep da n)) (pg_onil T)) (pg_dite (pg_gis T (by decide)) (pg_dnil T))
theorem pg_oelem {T : pg_T} {E : pg_P} (h : pg_O T E) (d : pg_D T E) : pg_O T (pg_elem T E) := pg_obrk h d (fun _ => pg_ostp) (fun _ => pg_oexp) (pg_fcomp (pg_fexp T (by decide)) (pg_fdec T))
theorem pg_ocall {T : pg_T} {E : pg_P} (h : pg_O T E) (d : pg_D T E) : pg_O T (pg_call T E) := by
  have h1 : pg_O T (pg_ite (pg_is T 53) pg_nil (pg_sep T E pg_M)) := pg_oite (pg_onil T) (pg_osep h d pg_M)
  have h2 : pg_D T (pg_ite (pg_is T 53) pg_nil (pg_sep T E pg_M)) := pg_dite2 (pg_dnil T) (pg_dsep d pg_M)
  unfold pg_call
  exact pg_onode (pg_obrk (g := pg_stp) (f := fun c => pg_exp T 53 (pg_dec c)) h1 h2 (fun _ => pg_ostp) (fun _ => pg_oexp) (pg_fcomp (pg_fexp T (by decide)) (pg_fdec T)))
theorem pg_ooper {T : pg_T} {X : Nat → pg_P} (h : ∀ m, m ≠ 1 → pg_O T (X m)) (d : ∀ m, pg_D T (X m)) : pg_O T (pg_oper T X) :=
  pg_oite (pg_obrk (g := id) (h 0 (by decide)) (d 0) (fun _ => rfl) (fun _ => rfl) (pg_fdec T))
  (pg_oite (pg_oconst T)
  (pg_oite (pg_obrk (g := id) (h 2 (by decide)) (d 2) (fun _ => rfl) (fun _ => pg_oexp) (pg_fcomp (pg_fexp T (by decide)) (pg_fdec T)))
  (pg_oite (pg_oite (pg_oelem (h 2 (by decide)) (d 2)) (pg_oite (pg_ocall (h 2 (by decide)) (d 2)) (pg_onout T)))
  (pg_oeq (fun _ => rfl)))))
theorem pg_bkmore {T : pg_T} {X : Nat → pg_P} {m n : Nat} {c : pg_C} {s : List pg_N} (h : pg_live T (pg_more T X m n c s).1) : pg_live T c := by
  rw [← pg_ld] at h ⊢
  exact fun z => h (by rw [pg_dmore n c s z]; exact z)
theorem pg_omore {T : pg_T} {X : Nat → pg_P} (h : ∀ m, m ≠ 1 → pg_O T (X m)) (d : ∀ m, pg_D T (X m)) (m : Nat) : ∀ (n : Nat) (c : pg_C) (s : List pg_N), pg_live T (pg_more T X m n c s).1 → c.2.2 ≤ (pg_more T X m n c s).1.2.2
  | 0, _, _, _ => Nat.le_refl _
  | n + 1, c, s, q => by
    unfold pg_more at q ⊢
    revert q
    cases pg_sign (pg_k T c) with
    | none => intro _; exact Nat.le_refl _
    | some g =>
      show pg_live T (if m ≤ pg_bind g + 2 then _ else _ : pg_C × List pg_N).1 → c.2.2 ≤ (if m ≤ pg_bind g + 2 then _ else _ : pg_C × List pg_N).1.2.2
      by_cases w : m ≤ pg_bind g + 2
      · rw [if_pos w]
        intro q
        have h1 := pg_omore h d m n _ _ q
        have h2 := pg_bkmore q
        have h3 := h _ (by omega) _ h2
        have h4 := (pg_lopn (pg_bk (d _) h2)).2.2
        have h5 : (pg_opn c).2.2 = c.2.2 + 1 := by rw [h4]
        omega
      · rw [if_neg w]
        intro _; exact Nat.le_refl _
theorem pg_oX (T : pg_T) : ∀ f m, m ≠ 1 → pg_O T (pg_X T f m)
  | 0, _, _ => pg_oeq (fun _ => rfl)
  | f + 1, m, hm => fun c h => by
    unfold pg_X at *
    by_cases q : m = 0
    · rw [if_pos q] at h ⊢
      exact pg_ooper (fun m hm => pg_oX T f m hm) (pg_dX T f) c h
    · rw [if_neg q] at h ⊢
      unfold pg_expr pg_rst at h ⊢
      rw [if_neg hm] at h ⊢
      exact Nat.le_trans (pg_oX T f 0 (by decide) c (pg_bkmore h)) (pg_omore (fun m hm => pg_oX T f m hm) (pg_dX T f) m _ _ _ h)

/-- reading goes on -/
def pg_I (a : pg_P) : Prop := ∀ c, c.1 ≤ (a c).1.1
theorem pg_iexp {T : pg_T} {k : Nat} {c : pg_C} : c.1 ≤ (pg_exp T k c).1 := by
  unfold pg_exp pg_stop
  split
  · exact Nat.le_succ _
  · exact Nat.le_refl _
theorem pg_istp {c : pg_C} : c.1 ≤ (pg_stp c).1 := by
  unfold pg_stp
  split
  · exact Nat.le_succ _
  · exact Nat.le_refl _
theorem pg_iopn {c : pg_C} : c.1 ≤ (pg_opn c).1 := by
  unfold pg_opn
  split
  · exact Nat.le_succ _
  · exact Nat.le_refl _
theorem pg_iseq {a b : pg_P} (ha : pg_I a) (hb : pg_I b) : pg_I (pg_seq a b) := fun c => Nat.le_trans (ha c) (hb _)
theorem pg_iite {p : pg_C → Bool} {a b : pg_P} (ha : pg_I a) (hb : pg_I b) : pg_I (pg_ite p a b) := fun c => by
  unfold pg_ite
  cases p c
  · exact hb c
  · exact ha c
theorem pg_inil : pg_I pg_nil := fun _ => Nat.le_refl _
theorem pg_itok {f : pg_C → pg_C} (h : ∀ c, c.1 ≤ (f c).1) : pg_I (pg_tok f) := h
theorem pg_inode {k : Nat} {p : pg_C → Nat} {v : pg_C → Int32} {a : pg_P} (ha : pg_I a) : pg_I (pg_node k p v a) := ha
theorem pg_ileaf {T : pg_T} {k : Nat} {v : pg_C → Int32} {f : pg_C → pg_C} (h : ∀ c, c.1 ≤ (f c).1) : pg_I (pg_leaf T k v f) := h
theorem pg_iwhl {p : pg_C → Bool} {a : pg_P} (ha : pg_I a) : ∀ n, pg_I (pg_whl p a n)
  | 0 => pg_inil
  | n + 1 => pg_iite (pg_iseq ha (pg_iwhl ha n)) pg_inil
theorem pg_isep {T : pg_T} {a : pg_P} (ha : pg_I a) : ∀ n, pg_I (pg_sep T a n)
  | 0 => pg_inil
  | n + 1 => pg_iseq ha (pg_iite (pg_iseq (pg_itok (fun _ => pg_istp)) (pg_isep ha n)) pg_inil)
theorem pg_iconst (T : pg_T) : pg_I (pg_const T) := pg_iite (pg_ileaf (fun _ => pg_istp)) (pg_iite (pg_ileaf (fun _ => Nat.le_trans pg_istp pg_iexp)) (pg_ileaf (fun _ => pg_iexp)))
theorem pg_inout (T : pg_T) : pg_I (pg_nout T) := fun c => by
  unfold pg_nout pg_ite
  cases pg_is T 59 (pg_exp T 41 c)
  · exact pg_iexp
  · exact Nat.le_trans pg_iexp (Nat.le_trans pg_istp pg_iexp)
theorem pg_ielem {T : pg_T} {E : pg_P} (h : pg_I E) : pg_I (pg_elem T E) := pg_inode (pg_iseq (pg_itok (fun _ => Nat.le_trans pg_istp pg_iopn)) (pg_iseq h (pg_itok (fun _ => pg_iexp (c := pg_dec _)))))
theorem pg_icall {T : pg_T} {E : pg_P} (h : pg_I E) : pg_I (pg_call T E) := pg_inode (pg_iseq (pg_itok (fun _ => Nat.le_trans pg_istp pg_iopn)) (pg_iseq (pg_iite pg_inil (pg_isep h pg_M)) (pg_itok (fun _ => pg_iexp (c := pg_dec _)))))
theorem pg_ioper {T : pg_T} {X : Nat → pg_P} (h : ∀ m, pg_I (X m)) : pg_I (pg_oper T X) :=
  pg_iite (pg_inode (pg_iseq (pg_itok (fun _ => pg_iopn)) (pg_iseq (h 0) (pg_itok (fun _ => Nat.le_refl _)))))
  (pg_iite (pg_iconst T)
  (pg_iite (pg_iseq (pg_itok (fun _ => pg_iopn)) (pg_iseq (h 2) (pg_itok (fun _ => pg_iexp (c := pg_dec _)))))
  (pg_iite (pg_iite (pg_ielem (h 2)) (pg_iite (pg_icall (h 2)) (pg_inout T)))
  (pg_itok (fun _ => Nat.le_refl _)))))
theorem pg_imore {T : pg_T} {X : Nat → pg_P} (h : ∀ m, pg_I (X m)) (m : Nat) : ∀ (n : Nat) (c : pg_C) (s : List pg_N), c.1 ≤ (pg_more T X m n c s).1.1
  | 0, _, _ => Nat.le_refl _
  | n + 1, c, s => by
    unfold pg_more
    cases pg_sign (pg_k T c) with
    | none => exact Nat.le_refl _
    | some g =>
      show c.1 ≤ (if m ≤ pg_bind g + 2 then _ else _ : pg_C × List pg_N).1.1
      by_cases w : m ≤ pg_bind g + 2
      · rw [if_pos w]
        exact Nat.le_trans pg_iopn (Nat.le_trans (h _ _) (pg_imore h m n _ _))
      · rw [if_neg w]
        exact Nat.le_refl _
theorem pg_iX (T : pg_T) : ∀ f m, pg_I (pg_X T f m)
  | 0, _ => pg_itok (fun _ => Nat.le_refl _)
  | f + 1, m => fun c => by
    unfold pg_X
    by_cases q : m = 0
    · rw [if_pos q]
      exact pg_ioper (pg_iX T f) c
    · rw [if_neg q]
      unfold pg_expr pg_rst
      by_cases w : m = 1
      · rw [if_pos w]
        exact Nat.le_trans (pg_iX T f 0 c) (pg_imore (pg_iX T f) m pg_M _ _)
      · rw [if_neg w]
        exact Nat.le_trans (pg_iX T f 0 c) (pg_imore (pg_iX T f) m pg_M _ _)
/-! EXPRESSIONS WITH A PILE: what waits (kind, place, value, nodes below), and operands -/
abbrev xm_I := Nat × Nat × Int32 × List pg_N
abbrev xm_S := Nat × pg_C × List xm_I × List (List pg_N)
def xm_nd (i : xm_I) (s : List pg_N) : List pg_N := (i.1, i.2.1, i.2.2.1, s.length + 1) :: s
/-- an operand is there: the signs that wait for one take it -/
def xm_gv : pg_C → List xm_I → List pg_N → pg_C × List xm_I × List pg_N
  | c, [], s => (c, [], s)
  | c, i :: P, s => if i.1 = 36 then xm_gv (pg_dec c) P (xm_nd i s) else (c, i :: P, s)
def xm_gs (c : pg_C) (P : List xm_I) (O : List (List pg_N)) (s : List pg_N) : xm_S := (1, (xm_gv c P s).1, (xm_gv c P s).2.1, (xm_gv c P s).2.2 :: O)
def xm_set (k : Nat) : List xm_I → List (List pg_N) → List xm_I × List (List pg_N)
  | i :: P, b :: a :: O => if i.1 = 35 ∧ k ≤ pg_bind i.2.2.1.toNatClampNeg + 1 then xm_set k P (xm_nd i (a ++ b) :: O) else (i :: P, b :: a :: O)
  | P, O => (P, O)
def xm_nm (T : pg_T) (c : pg_C) (p : Nat) (v : Int32) (P : List xm_I) (O : List (List pg_N)) : xm_S :=
  if pg_is T 54 c then (0, pg_opn c, (32, p, v, []) :: P, O)
  else if pg_is T 52 c then
    (if pg_is T 53 (pg_opn c) then xm_gs (pg_exp T 53 (pg_dec (pg_opn c))) P O [(34, p, v, 1)] else (0, pg_opn c, (34, p, v, []) :: P, O))
  else if pg_is T 59 c then xm_gs (pg_exp T 41 (pg_stp c)) P O [(33, p, v, 2), (6, pg_pl T (pg_stp c), pg_v T (pg_stp c), 1)]
  else xm_gs c P O [(6, p, v, 1)]
def xm_op (T : pg_T) (c : pg_C) (P : List xm_I) (O : List (List pg_N)) : xm_S :=
  if pg_any T [61, 34] c then (0, pg_opn c, (36, pg_pl T c, if pg_is T 34 c then 1 else 0, []) :: P, O)
  else if pg_any T [42, 35, 36] c then xm_gs (pg_const T c).1 P O (pg_const T c).2
  else if pg_is T 52 c then (0, pg_opn c, (99, 0, 0, []) :: P, O)
  else if pg_is T 41 c then xm_nm T (pg_exp T 41 c) (pg_pl T c) (pg_v T c) P O
  else (2, pg_stop c, P, O)
def xm_cl (T : pg_T) (c : pg_C) : List xm_I → List (List pg_N) → xm_S
  | [], O => (2, c, [], O)
  | i :: P, v :: O =>
    if (pg_is T 53 c = true ∧ (i.1 = 99 ∨ i.1 = 34)) ∨ (pg_is T 55 c = true ∧ i.1 = 32) then xm_gs (pg_stp (pg_dec c)) P O (if i.1 = 99 then v else xm_nd i (i.2.2.2 ++ v))
    else if pg_is T 56 c = true ∧ i.1 = 34 then (0, pg_stp c, (i.1, i.2.1, i.2.2.1, i.2.2.2 ++ v) :: P, O)
    else (2, pg_stop c, i :: P, v :: O)
  | P, O => (2, pg_stop c, P, O)
def xm_bh (T : pg_T) (c : pg_C) (P : List xm_I) (O : List (List pg_N)) : xm_S :=
  match pg_sign (pg_k T c) with
  | some g => (0, pg_opn c, (35, pg_pl T c, nI g, []) :: (xm_set (pg_bind g + 1) P O).1, (xm_set (pg_bind g + 1) P O).2)
  | none => xm_cl T c (xm_set 1 P O).1 (xm_set 1 P O).2
def xm_step (T : pg_T) (x : xm_S) : xm_S :=
  if x.1 = 2 ∨ (x.2.1.2.1 ≠ 0 ∨ T.1 x.2.1.1 = 45) then (2, x.2)
  else if x.1 = 0 then xm_op T x.2.1 x.2.2.1 x.2.2.2 else xm_bh T x.2.1 x.2.2.1 x.2.2.2
def xm_run (T : pg_T) : Nat → xm_S → xm_S
  | 0, x => x
  | n + 1, x => xm_run T n (xm_step T x)
def xm_re (T : pg_T) (x y : xm_S) : Prop := ∃ n, xm_run T n x = y
theorem xm_ra (T : pg_T) : ∀ (n m : Nat) (x : xm_S), xm_run T (n + m) x = xm_run T m (xm_run T n x)
  | 0, m, x => by rw [Nat.zero_add]; rfl
  | n + 1, m, x => by
    rw [Nat.add_right_comm]
    exact xm_ra T n m _
theorem xm_rt {T : pg_T} {x y z : xm_S} (h1 : xm_re T x y) (h2 : xm_re T y z) : xm_re T x z := by
  obtain ⟨n, h1⟩ := h1
  obtain ⟨m, h2⟩ := h2
  exact ⟨n + m, by rw [xm_ra, h1, h2]⟩
theorem xm_rr {T : pg_T} {x : xm_S} : xm_re T x x := ⟨0, rfl⟩
theorem xm_r1 {T : pg_T} {x y : xm_S} (h : xm_step T x = y) : xm_re T x y := ⟨1, h⟩
theorem xm_s0 {T : pg_T} {c : pg_C} {P : List xm_I} {O : List (List pg_N)} (h : pg_live T c) : xm_step T (0, c, P, O) = xm_op T c P O :=
  (if_neg (fun z => z.elim (fun z => absurd z (by decide : ¬ (0 : Nat) = 2)) (fun z => z.elim (fun z => z h.1) (fun z => h.2 z)))).trans (if_pos rfl)
theorem xm_s1 {T : pg_T} {c : pg_C} {P : List xm_I} {O : List (List pg_N)} (h : pg_live T c) : xm_step T (1, c, P, O) = xm_bh T c P O :=
  (if_neg (fun z => z.elim (fun z => absurd z (by decide : ¬ (1 : Nat) = 2)) (fun z => z.elim (fun z => z h.1) (fun z => h.2 z)))).trans (if_neg (by decide : ¬ (1 : Nat) = 0))
theorem xm_sd {T : pg_T} {k : Nat} {c : pg_C} {P : List xm_I} {O : List (List pg_N)} (h : pg_dead T c) : xm_step T (k, c, P, O) = (2, c, P, O) := if_pos (Or.inr h)
/-- both ended, with the same fault -/
def pg_sf (T : pg_T) (a b : pg_C) : Prop := pg_dead T a ∧ pg_dead T b ∧ a.1 = b.1 ∧ (T.1 a.1 = 45 ∨ a.2.1 = b.2.1)
theorem pg_sfd {T : pg_T} {a b c : pg_C} (h : pg_sf T a b) (q : pg_deq b c) : pg_sf T a c := by
  obtain ⟨h1, h2, h3, h4⟩ := h
  refine ⟨h1, pg_deq_d h2 q, h3.trans q.1.symm, ?_⟩
  rcases h4 with h4 | h4
  · exact Or.inl h4
  · rcases q.2 with w | w
    · exact Or.inr (h4.trans w.symm)
    · left
      rcases h1 with z | z
      · exact absurd (h4.trans w.1) z
      · exact z
theorem pg_sfr {T : pg_T} {a : pg_C} (h : pg_dead T a) : pg_sf T a a := ⟨h, h, rfl, Or.inr rfl⟩
/-- the end of a road that came to nothing -/
def xm_no (T : pg_T) (x : xm_S) (c : pg_C) : Prop := ∃ y, xm_re T x y ∧ y.1 = 2 ∧ pg_sf T y.2.1 c
theorem xm_no_r {T : pg_T} {x y : xm_S} {c : pg_C} (h : xm_re T x y) (q : xm_no T y c) : xm_no T x c := by
  obtain ⟨z, h1, h2⟩ := q
  exact ⟨z, xm_rt h h1, h2⟩
theorem xm_no_d {T : pg_T} {x : xm_S} {c c' : pg_C} (h : xm_no T x c) (q : pg_deq c c') : xm_no T x c' := by
  obtain ⟨y, h1, h2, h3⟩ := h
  exact ⟨y, h1, h2, pg_sfd h3 q⟩
theorem xm_no_s {T : pg_T} {k : Nat} {c : pg_C} {P : List xm_I} {O : List (List pg_N)} (h : pg_dead T c) : xm_no T (k, c, P, O) c := ⟨_, xm_r1 (xm_sd h), rfl, pg_sfr h⟩
def xm_kk (T : pg_T) (c : pg_C) : Nat := match pg_sign (pg_k T c) with | some g => pg_bind g + 1 | none => 1
/-- at the pile's top stands nothing that an operand or a sign of closeness m - 2 would take -/
def xm_tp (m : Nat) : List xm_I → Prop
  | [] => True
  | i :: _ => i.1 ≠ 36 ∧ (i.1 = 35 → pg_bind i.2.2.1.toNatClampNeg + 3 ≤ m)
theorem xm_gv_tp {m : Nat} {P : List xm_I} (h : xm_tp m P) (c : pg_C) (s : List pg_N) : xm_gv c P s = (c, P, s) := by
  cases P with
  | nil => rfl
  | cons i P =>
    unfold xm_gv
    rw [if_neg h.1]
theorem xm_set_tp {m k : Nat} {P : List xm_I} (h : xm_tp m P) (hk : m ≤ k + 1) (O : List (List pg_N)) : xm_set k P O = (P, O) := by
  cases P with
  | nil => unfold xm_set; rfl
  | cons i P =>
    match O with
    | [] => rfl
    | [_] => rfl
    | b :: a :: O =>
      unfold xm_set
      rw [if_neg]
      intro z
      have := h.2 z.1
      omega

theorem pg_sign_lt {k g : Nat} (h : pg_sign k = some g) : g < 14 := by
  unfold pg_sign at h
  grind (splits := 20)
theorem pg_clamp : ∀ g, g < 14 → (nI g).toNatClampNeg = g := by decide
theorem xm_gvc : ∀ (P : List xm_I) (c : pg_C) (s : List pg_N), (xm_gv c P s).1.1 = c.1 ∧ (xm_gv c P s).1.2.1 = c.2.1
  | [], _, _ => ⟨rfl, rfl⟩
  | i :: P, c, s => by
    unfold xm_gv
    by_cases h : i.1 = 36
    · rw [if_pos h]; exact xm_gvc P (pg_dec c) _
    · rw [if_neg h]; exact ⟨rfl, rfl⟩
theorem xm_no_g {T : pg_T} {c : pg_C} {P : List xm_I} {O : List (List pg_N)} {s : List pg_N} (h : pg_dead T c) : xm_no T (xm_gs c P O s) c := by
  obtain ⟨h1, h2⟩ := xm_gvc P c s
  have hd : pg_dead T (xm_gv c P s).1 := by unfold pg_dead at *; rw [h1, h2]; exact h
  exact ⟨_, xm_r1 (xm_sd hd), rfl, hd, h, h1, Or.inr h2⟩
theorem xm_kn {T : pg_T} {c : pg_C} (h : pg_sign (pg_k T c) = none) : xm_kk T c = 1 := by unfold xm_kk; rw [h]
theorem xm_ks {T : pg_T} {c : pg_C} {g : Nat} (h : pg_sign (pg_k T c) = some g) : xm_kk T c = pg_bind g + 1 := by unfold xm_kk; rw [h]
theorem xm_bn {T : pg_T} {c : pg_C} {P : List xm_I} {O : List (List pg_N)} (h : pg_sign (pg_k T c) = none) : xm_bh T c P O = xm_cl T c (xm_set 1 P O).1 (xm_set 1 P O).2 := by unfold xm_bh; rw [h]
theorem xm_bs {T : pg_T} {c : pg_C} {g : Nat} {P : List xm_I} {O : List (List pg_N)} (h : pg_sign (pg_k T c) = some g) : xm_bh T c P O = (0, pg_opn c, (35, pg_pl T c, nI g, []) :: (xm_set (pg_bind g + 1) P O).1, (xm_set (pg_bind g + 1) P O).2) := by unfold xm_bh; rw [h]
def xm_XO (T : pg_T) (f : Nat) : Prop := ∀ c P O, pg_live T c → 2 * (60 - c.2.2) + 1 ≤ f →
  (pg_dead T (pg_X T f 0 c).1 ∧ xm_no T (0, c, P, O) (pg_X T f 0 c).1) ∨ (pg_live T (pg_X T f 0 c).1 ∧ xm_re T (0, c, P, O) (xm_gs (pg_X T f 0 c).1 P O (pg_X T f 0 c).2))
def xm_R (T : pg_T) (m : Nat) (x : xm_S) (P : List xm_I) (O : List (List pg_N)) (r : pg_C × List pg_N) : Prop :=
  (pg_dead T r.1 ∧ xm_no T x r.1) ∨ (pg_live T r.1 ∧ (∀ g, pg_sign (pg_k T r.1) = some g → pg_bind g + 2 < m) ∧ ∃ P' O', xm_re T x (1, r.1, P', O') ∧ xm_set (xm_kk T r.1) P' O' = xm_set (xm_kk T r.1) P (r.2 :: O))
theorem xm_R_r {T : pg_T} {m : Nat} {x y : xm_S} {P : List xm_I} {O : List (List pg_N)} {r : pg_C × List pg_N} (h : xm_re T x y) (q : xm_R T m y P O r) : xm_R T m x P O r := by
  rcases q with ⟨q1, q2⟩ | ⟨q1, q2, P', O', q3, q4⟩
  · exact Or.inl ⟨q1, xm_no_r h q2⟩
  · exact Or.inr ⟨q1, q2, P', O', xm_rt h q3, q4⟩
def xm_XE (T : pg_T) (f : Nat) : Prop := ∀ m c P O, 2 ≤ m → xm_tp m P → pg_live T c → 2 * (60 - c.2.2) + 2 ≤ f → xm_R T m (0, c, P, O) P O (pg_X T f m c)
theorem xm_more {T : pg_T} {f N : Nat} (hT : ∀ j, N ≤ j → T.1 j = 44 ∨ T.1 j = 45) (ihE : xm_XE T f) {m : Nat} {P : List xm_I} {O : List (List pg_N)} (hm : 1 ≤ m) (hP : xm_tp m P) : ∀ (n : Nat) (c : pg_C) (s : List pg_N) (P' : List xm_I) (O' : List (List pg_N)), pg_live T c → N ≤ c.1 + n → 2 * (60 - c.2.2) ≤ f → xm_set (xm_kk T c) P' O' = xm_set (xm_kk T c) P (s :: O) → xm_R T m (1, c, P', O') P O (pg_more T (pg_X T f) m n c s) := by
  intro n
  induction n with
  | zero =>
    intro c s P' O' hc hN hf hs
    refine Or.inr ⟨hc, fun g hg => ?_, P', O', xm_rr, hs⟩
    have : T.1 c.1 = 44 := (hT c.1 (by omega)).resolve_right hc.2
    have e : pg_k T c = 44 := by unfold pg_k; rw [if_pos hc.1]; exact this
    have hg : pg_sign (pg_k T c) = some g := hg
    rw [e] at hg
    simp [pg_sign] at hg
  | succ n ih =>
    intro c s P' O' hc hN hf hs
    unfold pg_more
    cases hg : pg_sign (pg_k T c) with
    | none =>
      show xm_R T m (1, c, P', O') P O (c, s)
      exact Or.inr ⟨hc, fun g h => (by rw [show pg_sign (pg_k T c) = none from hg] at h; cases h), P', O', xm_rr, hs⟩
    | some g =>
      show xm_R T m (1, c, P', O') P O (if m ≤ pg_bind g + 2 then _ else _)
      by_cases w : m ≤ pg_bind g + 2
      · rw [if_pos w]
        rw [xm_ks hg, xm_set_tp hP (by omega)] at hs
        have st : xm_step T (1, c, P', O') = (0, pg_opn c, (35, pg_pl T c, nI g, []) :: P, s :: O) := by rw [xm_s1 hc, xm_bs hg, hs]
        refine xm_R_r (xm_r1 st) ?_
        by_cases hd : pg_dead T (pg_opn c)
        · have d1 := pg_dX T f (pg_bind g + 3) _ hd
          rw [pg_dmore n _ _ (pg_deq_d hd d1)]
          exact Or.inl ⟨pg_deq_d hd d1, xm_no_d (xm_no_s hd) d1⟩
        · have hl := pg_ld.mp hd
          obtain ⟨o1, o2, o3⟩ := pg_lopn hl
          have o4 : (pg_opn c).2.2 = c.2.2 + 1 := by rw [o3]
          have o5 : (pg_opn c).1 = c.1 + 1 := by rw [o3]
          have hg14 := pg_sign_lt hg
          rcases ihE (pg_bind g + 3) (pg_opn c) ((35, pg_pl T c, nI g, []) :: P) (s :: O) (by omega) ⟨(by decide : (35 : Nat) ≠ 36), fun _ => by show pg_bind (nI g).toNatClampNeg + 3 ≤ _; rw [pg_clamp g hg14]; exact Nat.le_refl _⟩ hl (by omega) with ⟨q1, q2⟩ | ⟨q1, q2, P2, O2, q3, q4⟩
          · rw [pg_dmore n _ _ q1]
            exact Or.inl ⟨q1, q2⟩
          · refine xm_R_r q3 (ih _ _ P2 O2 q1 ?_ ?_ ?_)
            · have := pg_iX T f (pg_bind g + 3) (pg_opn c)
              omega
            · have := pg_oX T f (pg_bind g + 3) (by omega) (pg_opn c) q1
              omega
            · rw [q4]
              have hk : xm_kk T (pg_X T f (pg_bind g + 3) (pg_opn c)).1 ≤ pg_bind g + 1 := by
                cases hg' : pg_sign (pg_k T (pg_X T f (pg_bind g + 3) (pg_opn c)).1) with
                | none => rw [xm_kn hg']; omega
                | some g' => rw [xm_ks hg']; have := q2 g' hg'; omega
              exact if_pos (⟨rfl, by show _ ≤ pg_bind (nI g).toNatClampNeg + 1; rw [pg_clamp g hg14]; exact hk⟩ : _ ∧ _)
      · rw [if_neg w]
        exact Or.inr ⟨hc, fun g' h => (by rw [show pg_sign (pg_k T c) = some g from hg] at h; cases h; omega), P', O', xm_rr, hs⟩
theorem xm_E1 {T : pg_T} {f N : Nat} (hN : N ≤ pg_M) (hT : ∀ j, N ≤ j → T.1 j = 44 ∨ T.1 j = 45) (ihO : xm_XO T f) (ihE : xm_XE T f) {m : Nat} {P : List xm_I} {O : List (List pg_N)} (hm : 1 ≤ m) (hP : xm_tp m P) {c : pg_C} (hc : pg_live T c) (hf : 2 * (60 - c.2.2) + 1 ≤ f) : xm_R T m (0, c, P, O) P O (pg_more T (pg_X T f) m pg_M (pg_X T f 0 c).1 (pg_X T f 0 c).2) := by
  rcases ihO c P O hc hf with ⟨q1, q2⟩ | ⟨q1, q2⟩
  · rw [pg_dmore pg_M _ _ q1]
    exact Or.inl ⟨q1, q2⟩
  · unfold xm_gs at q2
    rw [xm_gv_tp hP] at q2
    have q2 : xm_re T (0, c, P, O) (1, (pg_X T f 0 c).1, P, (pg_X T f 0 c).2 :: O) := q2
    have := pg_oX T f 0 (by decide) c q1
    exact xm_R_r q2 (xm_more hT ihE hm hP pg_M _ _ P _ q1 (by omega) (by omega) rfl)
theorem pg_exs {T : pg_T} {k : Nat} {c : pg_C} (hc : c.2.1 = 0) (h : pg_is T k c = true) : pg_exp T k c = pg_stp c := by
  unfold pg_exp pg_stp
  unfold pg_is at h
  rw [if_pos (by simpa using h), if_pos hc]
theorem pg_exn {T : pg_T} {k : Nat} {c : pg_C} (h : pg_is T k c = false) : pg_exp T k c = pg_stop c := by
  unfold pg_exp
  unfold pg_is at h
  rw [if_neg (by simpa using h)]
theorem pg_stopd {T : pg_T} {c : pg_C} : pg_dead T (pg_stop c) := by
  unfold pg_dead pg_stop
  by_cases h : c.2.1 = 0
  · left; show (if c.2.1 = 0 then 1 else c.2.1) ≠ 0; rw [if_pos h]; decide
  · left; show (if c.2.1 = 0 then 1 else c.2.1) ≠ 0; rw [if_neg h]; exact h
theorem xm_no_t {T : pg_T} {c : pg_C} {P : List xm_I} {O : List (List pg_N)} : xm_no T (2, pg_stop c, P, O) (pg_stop (pg_dec c)) := ⟨_, xm_rr, rfl, pg_stopd, pg_stopd, rfl, Or.inr rfl⟩
theorem xm_cl_c {T : pg_T} {c : pg_C} {i : xm_I} {P : List xm_I} {O : List (List pg_N)} {v : List pg_N} : xm_cl T c (i :: P) (v :: O) = if (pg_is T 53 c = true ∧ (i.1 = 99 ∨ i.1 = 34)) ∨ (pg_is T 55 c = true ∧ i.1 = 32) then xm_gs (pg_stp (pg_dec c)) P O (if i.1 = 99 then v else xm_nd i (i.2.2.2 ++ v))
    else if pg_is T 56 c = true ∧ i.1 = 34 then (0, pg_stp c, (i.1, i.2.1, i.2.2.1, i.2.2.2 ++ v) :: P, O)
    else (2, pg_stop c, i :: P, v :: O) := rfl
/-- behind an expression in brackets: the closing one, of kind k -/
theorem xm_clo {T : pg_T} {k : Nat} {c : pg_C} {i : xm_I} {P : List xm_I} {O : List (List pg_N)} {v : List pg_N} (hk : (k = 53 ∧ (i.1 = 99 ∨ i.1 = 34)) ∨ (k = 55 ∧ i.1 = 32)) (hi : i.1 = 34 → pg_is T 56 c = false) (hc : pg_live T c) : (pg_dead T (pg_exp T k (pg_dec c)) ∧ xm_no T (xm_cl T c (i :: P) (v :: O)) (pg_exp T k (pg_dec c))) ∨ (pg_live T (pg_exp T k (pg_dec c)) ∧ xm_re T (xm_cl T c (i :: P) (v :: O)) (xm_gs (pg_exp T k (pg_dec c)) P O (if i.1 = 99 then v else xm_nd i (i.2.2.2 ++ v)))) := by
  have hk' : k ≠ 46 ∧ k ≠ 45 := by omega
  by_cases h : pg_is T k c = true
  · have e : pg_exp T k (pg_dec c) = pg_stp (pg_dec c) := pg_exs (c := pg_dec c) hc.1 h
    have e2 : xm_cl T c (i :: P) (v :: O) = xm_gs (pg_exp T k (pg_dec c)) P O (if i.1 = 99 then v else xm_nd i (i.2.2.2 ++ v)) := by
      rw [e, xm_cl_c]
      apply if_pos
      rcases hk with ⟨q, q'⟩ | ⟨q, q'⟩
      · left; rw [← q]; exact ⟨h, q'⟩
      · right; rw [← q]; exact ⟨h, q'⟩
    rw [e2]
    by_cases hd : pg_dead T (pg_exp T k (pg_dec c))
    · exact Or.inl ⟨hd, xm_no_g hd⟩
    · exact Or.inr ⟨pg_ld.mp hd, xm_rr⟩
  · have h : pg_is T k c = false := by simpa using h
    have e : pg_exp T k (pg_dec c) = pg_stop (pg_dec c) := pg_exn (c := pg_dec c) h
    have e2 : xm_cl T c (i :: P) (v :: O) = (2, pg_stop c, i :: P, v :: O) := by
      rw [xm_cl_c, if_neg, if_neg]
      · rintro ⟨z1, z2⟩
        rw [hi z2] at z1
        cases z1
      · rintro (⟨z1, z2⟩ | ⟨z1, z2⟩)
        · rcases hk with ⟨q, q'⟩ | ⟨q, q'⟩
          · rw [q, z1] at h; cases h
          · omega
        · rcases hk with ⟨q, q'⟩ | ⟨q, q'⟩
          · omega
          · rw [q, z1] at h; cases h
    rw [e2, e]
    exact Or.inl ⟨pg_stopd, xm_no_t⟩

theorem pg_stpl {T : pg_T} {c : pg_C} (hc : c.2.1 = 0) : pg_stp c = (c.1 + 1, c.2.1, c.2.2) := if_pos hc
theorem pg_isk {T : pg_T} {k : Nat} {c : pg_C} (h : pg_is T k c = true) : pg_k T c = k := by unfold pg_is at h; simpa using h
theorem pg_is2 {T : pg_T} {k j : Nat} {c : pg_C} (h : pg_is T k c = true) (hk : k ≠ j) : pg_is T j c = false := by
  unfold pg_is at *
  rw [show pg_k T c = k by simpa using h]
  simpa using hk
theorem xm_e2 {T : pg_T} {m : Nat} {x : xm_S} {i : xm_I} {P : List xm_I} {O : List (List pg_N)} {r : pg_C × List pg_N} (hm : m = 2) (hi : i.1 ≠ 35 ∧ i.1 ≠ 36) (h : xm_R T m x (i :: P) O r) : (pg_dead T r.1 ∧ xm_no T x r.1) ∨ (pg_live T r.1 ∧ xm_re T x (xm_cl T r.1 (i :: P) (r.2 :: O))) := by
  subst hm
  rcases h with ⟨q1, q2⟩ | ⟨q1, q2, P', O', q3, q4⟩
  · exact Or.inl ⟨q1, q2⟩
  · have hn : pg_sign (pg_k T r.1) = none := by
      cases e : pg_sign (pg_k T r.1) with
      | none => rfl
      | some g => exact absurd (q2 g e) (by omega)
    rw [xm_kn hn, xm_set_tp (m := 2) (P := i :: P) ⟨hi.2, fun z => absurd z hi.1⟩ (by omega)] at q4
    refine Or.inr ⟨q1, xm_rt q3 (xm_r1 ?_)⟩
    rw [xm_s1 q1, xm_bn hn, q4]
theorem xm_sep {T : pg_T} {f N : Nat} (hT : ∀ j, N ≤ j → T.1 j = 44 ∨ T.1 j = 45) (ihE : xm_XE T f) {p : Nat} {v : Int32} {P : List xm_I} {O : List (List pg_N)} : ∀ (n : Nat) (c : pg_C) (ch : List pg_N), pg_live T c → N ≤ c.1 + n → 2 * (60 - c.2.2) + 2 ≤ f →
    (pg_dead T (pg_exp T 53 (pg_dec (pg_sep T (pg_X T f 2) n c).1)) ∧ xm_no T (0, c, (34, p, v, ch) :: P, O) (pg_exp T 53 (pg_dec (pg_sep T (pg_X T f 2) n c).1))) ∨ (pg_live T (pg_exp T 53 (pg_dec (pg_sep T (pg_X T f 2) n c).1)) ∧ xm_re T (0, c, (34, p, v, ch) :: P, O) (xm_gs (pg_exp T 53 (pg_dec (pg_sep T (pg_X T f 2) n c).1)) P O ((34, p, v, (ch ++ (pg_sep T (pg_X T f 2) n c).2).length + 1) :: (ch ++ (pg_sep T (pg_X T f 2) n c).2)))) := by
  intro n
  induction n with
  | zero =>
    intro c ch hc hN hf
    have h44 : T.1 c.1 = 44 := (hT c.1 (by omega)).resolve_right hc.2
    have e : pg_k T c = 44 := by unfold pg_k; rw [if_pos hc.1]; exact h44
    have e' : pg_k T (pg_dec c) = 44 := e
    have e2 : pg_exp T 53 (pg_dec c) = pg_stop (pg_dec c) := pg_exn (by unfold pg_is; rw [e']; rfl)
    have e3 : xm_step T (0, c, (34, p, v, ch) :: P, O) = (2, pg_stop c, (34, p, v, ch) :: P, O) := by
      rw [xm_s0 hc]
      unfold xm_op pg_any pg_is
      rw [e]
      rfl
    show (pg_dead T (pg_exp T 53 (pg_dec c)) ∧ xm_no T _ (pg_exp T 53 (pg_dec c))) ∨ _
    rw [e2]
    exact Or.inl ⟨pg_stopd, xm_no_r (xm_r1 e3) xm_no_t⟩
  | succ n ih =>
    intro c ch hc hN hf
    have dS : pg_D T (pg_ite (pg_is T 56) (pg_seq (pg_tok pg_stp) (pg_sep T (pg_X T f 2) n)) pg_nil) := pg_dite (pg_gis T (by decide)) (pg_dnil T)
    have es : pg_sep T (pg_X T f 2) (n + 1) c = ((pg_ite (pg_is T 56) (pg_seq (pg_tok pg_stp) (pg_sep T (pg_X T f 2) n)) pg_nil (pg_X T f 2 c).1).1, (pg_X T f 2 c).2 ++ (pg_ite (pg_is T 56) (pg_seq (pg_tok pg_stp) (pg_sep T (pg_X T f 2) n)) pg_nil (pg_X T f 2 c).1).2) := rfl
    rw [es]
    have dF : pg_F T (fun c => pg_exp T 53 (pg_dec c)) := pg_fcomp (pg_fexp T (by decide)) (pg_fdec T)
    rcases xm_e2 rfl ⟨(by decide : (34 : Nat) ≠ 35), (by decide : (34 : Nat) ≠ 36)⟩ (ihE 2 c ((34, p, v, ch) :: P) O (Nat.le_refl _) ⟨(by decide : (34 : Nat) ≠ 36), fun z => absurd z (by decide : ¬ (34 : Nat) = 35)⟩ hc hf) with ⟨q1, q2⟩ | ⟨q1, q2⟩
    · have d1 := dS _ q1
      have d2 := dF _ (pg_deq_d q1 d1)
      exact Or.inl ⟨pg_deq_d (pg_deq_d q1 d1) d2, xm_no_d (xm_no_d q2 d1) d2⟩
    · by_cases h56 : pg_is T 56 (pg_X T f 2 c).1 = true
      · have ei : pg_ite (pg_is T 56) (pg_seq (pg_tok pg_stp) (pg_sep T (pg_X T f 2) n)) pg_nil (pg_X T f 2 c).1 = ((pg_sep T (pg_X T f 2) n (pg_stp (pg_X T f 2 c).1)).1, (pg_sep T (pg_X T f 2) n (pg_stp (pg_X T f 2 c).1)).2) := by
          unfold pg_ite
          rw [if_pos h56]
          rfl
        rw [ei]
        have ec : xm_cl T (pg_X T f 2 c).1 ((34, p, v, ch) :: P) ((pg_X T f 2 c).2 :: O) = (0, pg_stp (pg_X T f 2 c).1, (34, p, v, ch ++ (pg_X T f 2 c).2) :: P, O) := by
          rw [xm_cl_c, if_neg, if_pos ⟨h56, rfl⟩]
          rw [pg_is2 h56 (by decide), pg_is2 h56 (by decide)]
          rintro (⟨z, _⟩ | ⟨z, _⟩) <;> cases z
        rw [ec] at q2
        have ep := pg_stpl (T := T) q1.1
        by_cases hd : pg_dead T (pg_stp (pg_X T f 2 c).1)
        · have d1 := pg_dsep (pg_dX T f 2) n _ hd
          have d2 := dF _ (pg_deq_d hd d1)
          exact Or.inl ⟨pg_deq_d (pg_deq_d hd d1) d2, xm_no_d (xm_no_d (xm_no_r q2 (xm_no_s hd)) d1) d2⟩
        · have hi := pg_iX T f 2 c
          have ho := pg_oX T f 2 (by decide) c q1
          have g1 : (pg_stp (pg_X T f 2 c).1).1 = (pg_X T f 2 c).1.1 + 1 := by rw [ep]
          have g2 : (pg_stp (pg_X T f 2 c).1).2.2 = (pg_X T f 2 c).1.2.2 := by rw [ep]
          have := ih (pg_stp (pg_X T f 2 c).1) (ch ++ (pg_X T f 2 c).2) (pg_ld.mp hd) (by omega) (by omega)
          rw [List.append_assoc] at this
          rcases this with ⟨w1, w2⟩ | ⟨w1, w2⟩
          · exact Or.inl ⟨w1, xm_no_r q2 w2⟩
          · exact Or.inr ⟨w1, xm_rt q2 w2⟩
      · have h56 : pg_is T 56 (pg_X T f 2 c).1 = false := by simpa using h56
        have ei : pg_ite (pg_is T 56) (pg_seq (pg_tok pg_stp) (pg_sep T (pg_X T f 2) n)) pg_nil (pg_X T f 2 c).1 = ((pg_X T f 2 c).1, []) := by
          unfold pg_ite
          rw [h56]
          rfl
        rw [ei, List.append_nil]
        rcases xm_clo (k := 53) (i := (34, p, v, ch)) (P := P) (O := O) (v := (pg_X T f 2 c).2) (Or.inl ⟨rfl, Or.inr rfl⟩) (fun _ => h56) q1 with ⟨w1, w2⟩ | ⟨w1, w2⟩
        · exact Or.inl ⟨w1, xm_no_r q2 w2⟩
        · exact Or.inr ⟨w1, xm_rt q2 w2⟩
theorem xm_O1 {T : pg_T} {f N : Nat} (hN : N ≤ pg_M) (hT : ∀ j, N ≤ j → T.1 j = 44 ∨ T.1 j = 45) (ihO : xm_XO T f) (ihE : xm_XE T f) : xm_XO T (f + 1) := by
  intro c P O hc hf
  have e0 : pg_X T (f + 1) 0 = pg_oper T (pg_X T f) := rfl
  rw [e0]
  have s0 : xm_re T (0, c, P, O) (xm_op T c P O) := xm_r1 (xm_s0 hc)
  have dF : ∀ k, k ≠ 46 ∧ k ≠ 45 → pg_F T (fun c => pg_exp T k (pg_dec c)) := fun k hk => pg_fcomp (pg_fexp T hk) (pg_fdec T)
  suffices H : (pg_dead T (pg_oper T (pg_X T f) c).1 ∧ xm_no T (xm_op T c P O) (pg_oper T (pg_X T f) c).1) ∨ (pg_live T (pg_oper T (pg_X T f) c).1 ∧ xm_re T (xm_op T c P O) (xm_gs (pg_oper T (pg_X T f) c).1 P O (pg_oper T (pg_X T f) c).2)) by
    rcases H with ⟨w1, w2⟩ | ⟨w1, w2⟩
    · exact Or.inl ⟨w1, xm_no_r s0 w2⟩
    · exact Or.inr ⟨w1, xm_rt s0 w2⟩
  clear s0
  have opn_f : pg_live T (pg_opn c) → c.2.2 < 60 ∧ (pg_opn c).2.2 = c.2.2 + 1 := fun h => by
    obtain ⟨o1, _, o3⟩ := pg_lopn h
    exact ⟨o1, by rw [o3]⟩
  by_cases h1 : pg_any T [61, 34] c = true
  · -- a sign before one operand
    have er : pg_oper T (pg_X T f) c = (pg_dec (pg_X T f 0 (pg_opn c)).1, (36, pg_pl T c, (if pg_is T 34 c = true then 1 else 0), (pg_X T f 0 (pg_opn c)).2.length + 1) :: (pg_X T f 0 (pg_opn c)).2) := by
      unfold pg_oper pg_ite
      rw [if_pos h1]
      simp only [pg_node, pg_seq, pg_tok, List.nil_append, List.append_nil]
    have ex : xm_op T c P O = (0, pg_opn c, (36, pg_pl T c, (if pg_is T 34 c = true then 1 else 0), []) :: P, O) := by
      unfold xm_op
      rw [if_pos h1]
    rw [er, ex]
    by_cases hd : pg_dead T (pg_opn c)
    · have d1 := pg_dX T f 0 _ hd
      have d2 := pg_fdec T _ (pg_deq_d hd d1)
      exact Or.inl ⟨pg_deq_d (pg_deq_d hd d1) d2, xm_no_d (xm_no_d (xm_no_s hd) d1) d2⟩
    · have hl := pg_ld.mp hd
      have := opn_f hl
      rcases ihO (pg_opn c) ((36, pg_pl T c, (if pg_is T 34 c = true then 1 else 0), []) :: P) O hl (by omega) with ⟨w1, w2⟩ | ⟨w1, w2⟩
      · exact Or.inl ⟨pg_deq_d w1 (pg_fdec T _ w1), xm_no_d w2 (pg_fdec T _ w1)⟩
      · exact Or.inr ⟨w1, w2⟩
  have h1 : pg_any T [61, 34] c = false := by simpa using h1
  by_cases h2 : pg_any T [42, 35, 36] c = true
  · have er : pg_oper T (pg_X T f) c = pg_const T c := by
      unfold pg_oper pg_ite
      rw [h1, if_pos h2]
      rfl
    have ex : xm_op T c P O = xm_gs (pg_const T c).1 P O (pg_const T c).2 := by
      unfold xm_op
      rw [h1, if_pos h2]
      rfl
    rw [er, ex]
    by_cases hd : pg_dead T (pg_const T c).1
    · exact Or.inl ⟨hd, xm_no_g hd⟩
    · exact Or.inr ⟨pg_ld.mp hd, xm_rr⟩
  have h2 : pg_any T [42, 35, 36] c = false := by simpa using h2
  by_cases h3 : pg_is T 52 c = true
  · have er : pg_oper T (pg_X T f) c = (pg_exp T 53 (pg_dec (pg_X T f 2 (pg_opn c)).1), (pg_X T f 2 (pg_opn c)).2) := by
      unfold pg_oper pg_ite
      rw [h1, h2, if_pos h3]
      simp only [pg_seq, pg_tok, List.nil_append, List.append_nil, Bool.false_eq_true, if_false]
    have ex : xm_op T c P O = (0, pg_opn c, (99, 0, 0, []) :: P, O) := by
      unfold xm_op
      rw [h1, h2, if_pos h3]
      rfl
    rw [er, ex]
    by_cases hd : pg_dead T (pg_opn c)
    · have d1 := pg_dX T f 2 _ hd
      have d2 := dF 53 (by decide) _ (pg_deq_d hd d1)
      exact Or.inl ⟨pg_deq_d (pg_deq_d hd d1) d2, xm_no_d (xm_no_d (xm_no_s hd) d1) d2⟩
    · have hl := pg_ld.mp hd
      have := opn_f hl
      rcases xm_e2 rfl ⟨(by decide : (99 : Nat) ≠ 35), (by decide : (99 : Nat) ≠ 36)⟩ (ihE 2 (pg_opn c) ((99, 0, 0, []) :: P) O (Nat.le_refl _) ⟨(by decide : (99 : Nat) ≠ 36), fun z => absurd z (by decide : ¬ (99 : Nat) = 35)⟩ hl (by omega)) with ⟨w1, w2⟩ | ⟨w1, w2⟩
      · have d2 := dF 53 (by decide) _ w1
        exact Or.inl ⟨pg_deq_d w1 d2, xm_no_d w2 d2⟩
      · rcases xm_clo (k := 53) (i := (99, 0, 0, [])) (P := P) (O := O) (v := (pg_X T f 2 (pg_opn c)).2) (Or.inl ⟨rfl, Or.inl rfl⟩) (fun z => absurd z (by decide : ¬ (99 : Nat) = 34)) w1 with ⟨v1, v2⟩ | ⟨v1, v2⟩
        · exact Or.inl ⟨v1, xm_no_r w2 v2⟩
        · exact Or.inr ⟨v1, xm_rt w2 v2⟩
  have h3 : pg_is T 52 c = false := by simpa using h3
  by_cases h4 : pg_is T 41 c = true
  · have ee : pg_exp T 41 c = pg_stp c := pg_exs hc.1 h4
    have es : pg_stp c = (c.1 + 1, c.2.1, c.2.2) := pg_stpl (T := T) hc.1
    have nx : ∀ k, pg_next T k c = pg_is T k (pg_stp c) := fun k => by
      unfold pg_next pg_is pg_k
      rw [es]
      rw [if_pos hc.1]
    have er : pg_oper T (pg_X T f) c = pg_ite (pg_next T 54) (pg_elem T (pg_X T f 2)) (pg_ite (pg_next T 52) (pg_call T (pg_X T f 2)) (pg_nout T)) c := by
      unfold pg_oper pg_ite
      rw [h1, h2, h3, if_pos h4]
      simp only [Bool.false_eq_true, if_false]
    have ex : xm_op T c P O = xm_nm T (pg_stp c) (pg_pl T c) (pg_v T c) P O := by
      unfold xm_op
      rw [h1, h2, h3, if_pos h4, ee]
      simp only [Bool.false_eq_true, if_false]
    rw [er, ex]
    by_cases h5 : pg_is T 54 (pg_stp c) = true
    · have er : pg_ite (pg_next T 54) (pg_elem T (pg_X T f 2)) (pg_ite (pg_next T 52) (pg_call T (pg_X T f 2)) (pg_nout T)) c = (pg_exp T 55 (pg_dec (pg_X T f 2 (pg_opn (pg_stp c))).1), (32, pg_pl T c, pg_v T c, (pg_X T f 2 (pg_opn (pg_stp c))).2.length + 1) :: (pg_X T f 2 (pg_opn (pg_stp c))).2) := by
        unfold pg_ite
        rw [nx, if_pos h5]
        simp only [pg_elem, pg_node, pg_seq, pg_tok, List.nil_append, List.append_nil]
      have ex : xm_nm T (pg_stp c) (pg_pl T c) (pg_v T c) P O = (0, pg_opn (pg_stp c), (32, pg_pl T c, pg_v T c, []) :: P, O) := by
        unfold xm_nm
        rw [if_pos h5]
      rw [er, ex]
      by_cases hd : pg_dead T (pg_opn (pg_stp c))
      · have d1 := pg_dX T f 2 _ hd
        have d2 := dF 55 (by decide) _ (pg_deq_d hd d1)
        exact Or.inl ⟨pg_deq_d (pg_deq_d hd d1) d2, xm_no_d (xm_no_d (xm_no_s hd) d1) d2⟩
      · have hl := pg_ld.mp hd
        obtain ⟨o1, _, o3⟩ := pg_lopn hl
        have o4 : (pg_opn (pg_stp c)).2.2 = c.2.2 + 1 := by rw [o3]; exact congrArg (· + 1) pg_ostp
        have o5 : (pg_stp c).2.2 = c.2.2 := pg_ostp
        rcases xm_e2 rfl ⟨(by decide : (32 : Nat) ≠ 35), (by decide : (32 : Nat) ≠ 36)⟩ (ihE 2 (pg_opn (pg_stp c)) ((32, pg_pl T c, pg_v T c, []) :: P) O (Nat.le_refl _) ⟨(by decide : (32 : Nat) ≠ 36), fun z => absurd z (by decide : ¬ (32 : Nat) = 35)⟩ hl (by omega)) with ⟨w1, w2⟩ | ⟨w1, w2⟩
        · have d2 := dF 55 (by decide) _ w1
          exact Or.inl ⟨pg_deq_d w1 d2, xm_no_d w2 d2⟩
        · rcases xm_clo (k := 55) (i := (32, pg_pl T c, pg_v T c, [])) (P := P) (O := O) (v := (pg_X T f 2 (pg_opn (pg_stp c))).2) (Or.inr ⟨rfl, rfl⟩) (fun z => absurd z (by decide : ¬ (32 : Nat) = 34)) w1 with ⟨v1, v2⟩ | ⟨v1, v2⟩
          · exact Or.inl ⟨v1, xm_no_r w2 v2⟩
          · exact Or.inr ⟨v1, xm_rt w2 v2⟩
    have h5 : pg_is T 54 (pg_stp c) = false := by simpa using h5
    by_cases h6 : pg_is T 52 (pg_stp c) = true
    · have er : pg_ite (pg_next T 54) (pg_elem T (pg_X T f 2)) (pg_ite (pg_next T 52) (pg_call T (pg_X T f 2)) (pg_nout T)) c = pg_call T (pg_X T f 2) c := by
        unfold pg_ite
        rw [nx, nx, h5, if_pos h6]
        rfl
      have ex : xm_nm T (pg_stp c) (pg_pl T c) (pg_v T c) P O = (if pg_is T 53 (pg_opn (pg_stp c)) then xm_gs (pg_exp T 53 (pg_dec (pg_opn (pg_stp c)))) P O [(34, pg_pl T c, pg_v T c, 1)] else (0, pg_opn (pg_stp c), (34, pg_pl T c, pg_v T c, []) :: P, O)) := by
        unfold xm_nm
        rw [h5, if_pos h6]
        rfl
      rw [er, ex]
      by_cases h7 : pg_is T 53 (pg_opn (pg_stp c)) = true
      · have er : pg_call T (pg_X T f 2) c = (pg_exp T 53 (pg_dec (pg_opn (pg_stp c))), [(34, pg_pl T c, pg_v T c, 1)]) := by
          simp only [pg_call, pg_node, pg_seq, pg_tok, pg_ite, h7, pg_nil, if_true, List.append_nil, List.length_nil]
        rw [er, if_pos h7]
        by_cases hd : pg_dead T (pg_exp T 53 (pg_dec (pg_opn (pg_stp c))))
        · exact Or.inl ⟨hd, xm_no_g hd⟩
        · exact Or.inr ⟨pg_ld.mp hd, xm_rr⟩
      · have h7 : pg_is T 53 (pg_opn (pg_stp c)) = false := by simpa using h7
        have er : pg_call T (pg_X T f 2) c = (pg_exp T 53 (pg_dec (pg_sep T (pg_X T f 2) pg_M (pg_opn (pg_stp c))).1), (34, pg_pl T c, pg_v T c, (pg_sep T (pg_X T f 2) pg_M (pg_opn (pg_stp c))).2.length + 1) :: (pg_sep T (pg_X T f 2) pg_M (pg_opn (pg_stp c))).2) := by
          simp only [pg_call, pg_node, pg_seq, pg_tok, pg_ite, h7, if_false, Bool.false_eq_true, List.append_nil, List.nil_append]
        rw [er, h7]
        by_cases hd : pg_dead T (pg_opn (pg_stp c))
        · have d1 := pg_dsep (pg_dX T f 2) pg_M _ hd
          have d2 := dF 53 (by decide) _ (pg_deq_d hd d1)
          exact Or.inl ⟨pg_deq_d (pg_deq_d hd d1) d2, xm_no_d (xm_no_d (xm_no_s hd) d1) d2⟩
        · have hl := pg_ld.mp hd
          obtain ⟨o1, _, o3⟩ := pg_lopn hl
          have o4 : (pg_opn (pg_stp c)).2.2 = c.2.2 + 1 := by rw [o3]; exact congrArg (· + 1) pg_ostp
          have o5 : (pg_stp c).2.2 = c.2.2 := pg_ostp
          exact xm_sep hT ihE (p := pg_pl T c) (v := pg_v T c) (P := P) (O := O) pg_M (pg_opn (pg_stp c)) [] hl (by omega) (by omega)
    have h6 : pg_is T 52 (pg_stp c) = false := by simpa using h6
    have er : pg_ite (pg_next T 54) (pg_elem T (pg_X T f 2)) (pg_ite (pg_next T 52) (pg_call T (pg_X T f 2)) (pg_nout T)) c = pg_nout T c := by
      unfold pg_ite
      rw [nx, nx, h5, h6]
      rfl
    have ex : xm_nm T (pg_stp c) (pg_pl T c) (pg_v T c) P O = xm_gs (pg_nout T c).1 P O (pg_nout T c).2 := by
      unfold xm_nm pg_nout
      rw [h5, h6, ee]
      unfold pg_ite
      cases pg_is T 59 (pg_stp c) <;> rfl
    rw [er, ex]
    by_cases hd : pg_dead T (pg_nout T c).1
    · exact Or.inl ⟨hd, xm_no_g hd⟩
    · exact Or.inr ⟨pg_ld.mp hd, xm_rr⟩
  have h4 : pg_is T 41 c = false := by simpa using h4
  have er : pg_oper T (pg_X T f) c = (pg_stop c, []) := by
    unfold pg_oper pg_ite
    rw [h1, h2, h3, h4]
    rfl
  have ex : xm_op T c P O = (2, pg_stop c, P, O) := by
    unfold xm_op
    rw [h1, h2, h3, h4]
    rfl
  rw [er, ex]
  exact Or.inl ⟨pg_stopd, ⟨_, xm_rr, rfl, pg_sfr pg_stopd⟩⟩
theorem xm_all {T : pg_T} {N : Nat} (hN : N ≤ pg_M) (hT : ∀ j, N ≤ j → T.1 j = 44 ∨ T.1 j = 45) : ∀ f, xm_XO T f ∧ xm_XE T f
  | 0 => ⟨fun c P O _ hf => absurd hf (by omega), fun m c P O _ _ _ hf => absurd hf (by omega)⟩
  | f + 1 => by
    obtain ⟨ihO, ihE⟩ := xm_all hN hT f
    refine ⟨xm_O1 hN hT ihO ihE, fun m c P O hm hP hc hf => ?_⟩
    have e : pg_X T (f + 1) m c = pg_more T (pg_X T f) m pg_M (pg_X T f 0 c).1 (pg_X T f 0 c).2 := by
      show (if m = 0 then pg_oper T (pg_X T f) else pg_expr T (pg_X T f) m) c = _
      rw [if_neg (by omega)]
      unfold pg_expr pg_rst
      rw [if_neg (by omega)]
    rw [e]
    exact xm_E1 hN hT ihO ihE (by omega) hP hc (by omega)
/-- a whole expression -/
theorem xm_expr {T : pg_T} {N : Nat} (hN : N ≤ pg_M) (hT : ∀ j, N ≤ j → T.1 j = 44 ∨ T.1 j = 45) {c : pg_C} (hc : pg_live T c) : (pg_dead T (pg_E T c).1 ∧ xm_no T (0, c, [], []) (pg_E T c).1) ∨ (pg_live T (pg_E T c).1 ∧ (pg_E T c).1.2.2 = c.2.2 ∧ ∃ c', xm_re T (0, c, [], []) (2, c', [], [(pg_E T c).2]) ∧ c'.1 = (pg_E T c).1.1 ∧ c'.2.1 = 0) := by
  obtain ⟨ihO, ihE⟩ := xm_all hN hT 199
  have e : pg_E T c = pg_rst 1 c.2.2 (pg_more T (pg_X T 199) 1 pg_M (pg_X T 199 0 c).1 (pg_X T 199 0 c).2) := rfl
  rw [e]
  rcases xm_E1 hN hT ihO ihE (Nat.le_refl 1) (P := []) (O := []) trivial hc (by omega) with ⟨q1, q2⟩ | ⟨q1, q2, P', O', q3, q4⟩
  · obtain ⟨y, y1, y2, y3, y4, y5, y6⟩ := q2
    exact Or.inl ⟨q1, y, y1, y2, y3, q1, y5, y6⟩
  · have hn : pg_sign (pg_k T (pg_more T (pg_X T 199) 1 pg_M (pg_X T 199 0 c).1 (pg_X T 199 0 c).2).1) = none := by
      cases e : pg_sign (pg_k T (pg_more T (pg_X T 199) 1 pg_M (pg_X T 199 0 c).1 (pg_X T 199 0 c).2).1) with
      | none => rfl
      | some g => exact absurd (q2 g e) (by omega)
    rw [xm_kn hn] at q4
    refine Or.inr ⟨q1, rfl, (pg_more T (pg_X T 199) 1 pg_M (pg_X T 199 0 c).1 (pg_X T 199 0 c).2).1, xm_rt q3 (xm_r1 ?_), rfl, q1.1⟩
    rw [xm_s1 q1, xm_bn hn, q4]
    rfl
