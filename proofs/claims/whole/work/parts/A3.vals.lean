/-! VALUES of the nodes -/
def nd_nm (T : pg_T) (v : Int32) : Prop := ∃ j, T.1 j = 41 ∧ v = nI (T.2.2 j)
def nd_k (T : pg_T) (k : Nat) (v : Int32) : Prop := k ≤ 36 ∧ (k = 4 ∨ k = 8 → ∃ g, g ≤ 2 ∧ v = nI g) ∧ (k = 35 → ∃ g, g ≤ 13 ∧ v = nI g) ∧ (k = 36 → v = 0 ∨ v = 1) ∧ (k = 25 ∨ k = 28 → ∃ g, g ≤ 3 ∧ v = nI g) ∧ (k = 1 ∨ k = 2 ∨ k = 3 ∨ k = 6 ∨ k = 10 ∨ k = 13 ∨ k = 14 ∨ k = 19 ∨ k = 32 ∨ k = 33 ∨ k = 34 → nd_nm T v) ∧ (k = 7 → ∃ j, T.1 j = 43 ∧ v = nI (T.2.2 j))
def nd_l (T : pg_T) (l : List pg_N) : Prop := ∀ x ∈ l, nd_k T x.1 x.2.2.1
theorem nd_0 (T : pg_T) : nd_l T [] := fun x hx => absurd hx List.not_mem_nil
theorem nd_a {T : pg_T} {l m : List pg_N} (h1 : nd_l T l) (h2 : nd_l T m) : nd_l T (l ++ m) := fun x hx => by
  rcases List.mem_append.mp hx with y | y
  · exact h1 x y
  · exact h2 x y
theorem nd_c {T : pg_T} {l : List pg_N} {k p z : Nat} {v : Int32} (h : nd_l T l) (hk : nd_k T k v) : nd_l T ((k, p, v, z) :: l) := fun x hx => by
  rcases List.mem_cons.mp hx with y | y
  · rw [y]; exact hk
  · exact h x y
theorem nd_kn {T : pg_T} {k : Nat} {v : Int32} (hk : k ≤ 36 ∧ k ≠ 4 ∧ k ≠ 8 ∧ k ≠ 35 ∧ k ≠ 36 ∧ k ≠ 25 ∧ k ≠ 28 ∧ k ≠ 7) (h : nd_nm T v) : nd_k T k v := ⟨hk.1, fun z => by omega, fun z => by omega, fun z => by omega, fun z => by omega, fun _ => h, fun z => by omega⟩
theorem nd_k0 {T : pg_T} {k : Nat} {v : Int32} (hk : k = 0 ∨ k = 5 ∨ k = 9 ∨ k = 11 ∨ k = 12 ∨ k = 15 ∨ k = 16 ∨ k = 17 ∨ k = 18 ∨ k = 20 ∨ k = 21 ∨ k = 22 ∨ k = 23 ∨ k = 24 ∨ k = 26 ∨ k = 27 ∨ k = 29 ∨ k = 30 ∨ k = 31) : nd_k T k v := ⟨by omega, fun z => by omega, fun z => by omega, fun z => by omega, fun z => by omega, fun z => by omega, fun z => by omega⟩
theorem nd_is {T : pg_T} {c : pg_C} (h : pg_is T 41 c = true) : nd_nm T (pg_v T c) := by
  have hl := pg_isl h (by decide)
  have hk := pg_isk h
  unfold pg_k at hk
  rw [if_pos hl.1.1] at hk
  exact ⟨c.1, hk, rfl⟩
theorem nd_ex {T : pg_T} {c : pg_C} (z : pg_live T (pg_exp T 41 c)) : nd_nm T (pg_v T c) := ⟨c.1, (pg_exl (by decide) z).2.1, rfl⟩
/-- a parser's nodes are so -/
def pg_Q (T : pg_T) (a : pg_P) : Prop := ∀ c, pg_live T (a c).1 → nd_l T (a c).2
theorem pg_Qtok (T : pg_T) (f : pg_C → pg_C) : pg_Q T (pg_tok f) := fun _ _ => nd_0 T
theorem pg_Qnil (T : pg_T) : pg_Q T pg_nil := fun _ _ => nd_0 T
theorem pg_Qseq {T : pg_T} {a b : pg_P} (ha : pg_Q T a) (hb : pg_Q T b) (db : pg_D T b) : pg_Q T (pg_seq a b) := fun c z => nd_a (ha c (pg_bk db z)) (hb _ z)
theorem pg_Qite {T : pg_T} {p : pg_C → Bool} {a b : pg_P} (ha : pg_Q T a) (hb : pg_Q T b) : pg_Q T (pg_ite p a b) := fun c => by
  unfold pg_ite
  cases p c
  · exact hb c
  · exact ha c
theorem pg_Qit {T : pg_T} {p : pg_C → Bool} {a b : pg_P} (ha : ∀ c, p c = true → pg_live T (a c).1 → nd_l T (a c).2) (hb : ∀ c, p c = false → pg_live T (b c).1 → nd_l T (b c).2) : pg_Q T (pg_ite p a b) := fun c => by
  unfold pg_ite
  cases q : p c
  · exact hb c q
  · exact ha c q
theorem pg_Qnode {T : pg_T} {k : Nat} {pl : pg_C → Nat} {v : pg_C → Int32} {a : pg_P} (ha : pg_Q T a) (h : ∀ c, pg_live T (a c).1 → nd_k T k (v c)) : pg_Q T (pg_node k pl v a) := fun c z => nd_c (ha c z) (h c z)
theorem pg_Qleaf {T : pg_T} {k : Nat} {v : pg_C → Int32} {f : pg_C → pg_C} (h : ∀ c, pg_live T (f c) → nd_k T k (v c)) : pg_Q T (pg_leaf T k v f) := fun c z => nd_c (nd_0 T) (h c z)
theorem pg_Qwhl {T : pg_T} {p : pg_C → Bool} {a : pg_P} (hp : pg_G T p) (ha : ∀ c, p c = true → pg_live T (a c).1 → nd_l T (a c).2) : ∀ n, pg_Q T (pg_whl p a n)
  | 0 => pg_Qnil T
  | n + 1 => pg_Qit (fun c q z => nd_a (ha c q (pg_bk (pg_dwhl hp n) z)) (pg_Qwhl hp ha n _ z)) (fun c _ z => nd_0 T)
theorem pg_Qsep {T : pg_T} {a : pg_P} (da : pg_D T a) (ha : pg_Q T a) : ∀ n, pg_Q T (pg_sep T a n)
  | 0 => pg_Qnil T
  | n + 1 => pg_Qseq ha (pg_Qite (pg_Qseq (pg_Qtok T _) (pg_Qsep da ha n) (pg_dsep da n)) (pg_Qnil T)) (pg_dite (pg_gis T (by decide)) (pg_dnil T))
theorem pg_Qname (T : pg_T) : pg_Q T (pg_name T) := pg_Qleaf (fun c z => nd_kn (by decide) (nd_ex z))
theorem pg_Qsimple (T : pg_T) : pg_Q T (pg_simple T) := by
  refine pg_Qit (fun c q z => nd_c (nd_0 T) ⟨by decide, fun _ => ⟨pg_k T c - 11, ?_, rfl⟩, fun z => by omega, fun z => by omega, fun z => by omega, fun z => by omega, fun z => by omega⟩) (fun c _ _ => nd_0 T)
  have : pg_k T c = 11 ∨ pg_k T c = 12 ∨ pg_k T c = 13 := by unfold pg_any at q; simpa using q
  omega
theorem pg_Qconst (T : pg_T) : pg_Q T (pg_const T) := pg_Qite (pg_Qleaf (fun c _ => nd_k0 (by decide))) (pg_Qite (pg_Qleaf (fun c _ => nd_k0 (by decide))) (pg_Qleaf (fun c _ => nd_k0 (by decide))))
theorem pg_Qarray (T : pg_T) : pg_Q T (pg_array T) := by
  have ds := pg_dtok (pg_fcomp (f := pg_exp T 15) (g := pg_exp T 55) (pg_fexp T (by decide)) (pg_fexp T (by decide)))
  have d0 := pg_dseq ds (pg_dsimple T)
  have d1 := pg_dseq (pg_dconst T) d0
  have d2 := pg_dseq (pg_dtok (pg_fexp T (k := 48) (by decide))) d1
  exact pg_Qnode (pg_Qseq (pg_Qtok T _) (pg_Qseq (pg_Qconst T) (pg_Qseq (pg_Qtok T _) (pg_Qseq (pg_Qconst T) (pg_Qseq (pg_Qtok T _) (pg_Qsimple T) (pg_dsimple T)) d0) d1) d2) (pg_dseq (pg_dconst T) d2)) (fun c _ => nd_k0 (by decide))
theorem pg_Qdecl (T : pg_T) : pg_Q T (pg_decl T) := by
  have hn : pg_Q T (pg_whl (pg_is T 56) (pg_seq (pg_tok pg_stp) (pg_name T)) pg_M) := pg_Qwhl (pg_gis T (by decide)) (fun c _ z => pg_Qseq (pg_Qtok T _) (pg_Qname T) (pg_dname T) c z) pg_M
  have dw : pg_D T (pg_whl (pg_is T 56) (pg_seq (pg_tok pg_stp) (pg_name T)) pg_M) := pg_dwhl (pg_gis T (by decide)) pg_M
  unfold pg_decl
  generalize pg_whl (pg_is T 56) (pg_seq (pg_tok pg_stp) (pg_name T)) pg_M = W at *
  have l7 : pg_Q T (pg_leaf T 7 (pg_v T) (pg_exp T 43)) := pg_Qleaf (fun c z => ⟨by decide, fun z => by omega, fun z => by omega, fun z => by omega, fun z => by omega, fun z => by omega, fun _ => ⟨c.1, (pg_exl (by decide) z).2.1, rfl⟩⟩)
  have hp : pg_Q T (pg_ite (pg_is T 10) (pg_seq (pg_tok pg_stp) (pg_leaf T 7 (pg_v T) (pg_exp T 43))) pg_nil) := pg_Qite (pg_Qseq (pg_Qtok T _) l7 (pg_dleaf (pg_fexp T (by decide)))) (pg_Qnil T)
  have hy : pg_Q T (pg_ite (pg_is T 14) (pg_array T) (pg_ite (pg_is T 41) (pg_leaf T 10 (pg_v T) pg_stp) (pg_simple T))) := pg_Qite (pg_Qarray T) (pg_Qit (fun c q z => nd_c (nd_0 T) (nd_kn (by decide) (nd_is q))) (fun c _ z => pg_Qsimple T c z))
  have hi : pg_Q T (pg_ite (pg_is T 47) (pg_seq (pg_tok pg_stp) (pg_const T)) pg_nil) := pg_Qite (pg_Qseq (pg_Qtok T _) (pg_Qconst T) (pg_dconst T)) (pg_Qnil T)
  have di : pg_D T (pg_ite (pg_is T 47) (pg_seq (pg_tok pg_stp) (pg_const T)) pg_nil) := pg_dite (pg_gis T (by decide)) (pg_dnil T)
  have dp : pg_D T (pg_ite (pg_is T 10) (pg_seq (pg_tok pg_stp) (pg_leaf T 7 (pg_v T) (pg_exp T 43))) pg_nil) := pg_dite (pg_gis T (by decide)) (pg_dnil T)
  have dy : pg_D T (pg_ite (pg_is T 14) (pg_array T) (pg_ite (pg_is T 41) (pg_leaf T 10 (pg_v T) pg_stp) (pg_simple T))) := pg_dite (pg_gis T (by decide)) (pg_dite (pg_gis T (by decide)) (pg_dsimple T))
  have de := pg_dtok (pg_fexp T (k := 57) (by decide))
  have d1 := pg_dseq di de
  have d2 := pg_dseq dy d1
  have d3 := pg_dseq (pg_dtok (pg_fexp T (k := 58) (by decide))) d2
  have d4 := pg_dseq dp d3
  exact pg_Qnode (pg_Qseq (pg_Qname T) (pg_Qseq hn (pg_Qseq hp (pg_Qseq (pg_Qtok T _) (pg_Qseq hy (pg_Qseq hi (pg_Qtok T _) de) d1) d2) d3) d4) (pg_dseq dw d4)) (fun c _ => nd_k0 (by decide))
theorem pg_Qsect {T : pg_T} {c : pg_C} (q : pg_any T [6, 7, 8] c = true) (z : pg_live T (pg_sect T c).1) : nd_l T (pg_sect T c).2 := by
  have h := pg_Qwhl (T := T) (pg_gis T (k := 41) (by decide)) (fun c _ z => pg_Qdecl T c z) pg_M
  have dw : pg_D T (pg_whl (pg_is T 41) (pg_decl T) pg_M) := pg_dwhl (pg_gis T (by decide)) pg_M
  unfold pg_sect at z ⊢
  generalize pg_whl (pg_is T 41) (pg_decl T) pg_M = W at *
  have hk : pg_k T c = 6 ∨ pg_k T c = 7 ∨ pg_k T c = 8 := by unfold pg_any at q; simpa using q
  have hs := pg_Qseq (pg_Qtok T pg_stp) (pg_Qseq h (pg_Qtok T (pg_exp T 9)) (pg_dtok (pg_fexp T (by decide)))) (pg_dseq dw (pg_dtok (pg_fexp T (by decide))))
  exact nd_c (hs c z) ⟨by decide, fun _ => ⟨pg_k T c - 6, by omega, rfl⟩, fun z => by omega, fun z => by omega, fun z => by omega, fun z => by omega, fun z => by omega⟩
theorem pg_Qnout {T : pg_T} : pg_Q T (pg_nout T) := fun c z => by
  unfold pg_nout pg_ite at *
  cases q : pg_is T 59 (pg_exp T 41 c)
  · rw [q] at z; exact nd_c (nd_0 T) (nd_kn (by decide) (nd_ex z))
  · rw [q] at z
    have z : pg_live T (pg_exp T 41 (pg_stp (pg_exp T 41 c))) := z
    exact nd_c (nd_c (nd_0 T) (nd_kn (by decide) (nd_ex z))) (nd_kn (by decide) (nd_ex (pg_isl q (by decide)).1))
theorem pg_Qelem {T : pg_T} {E : pg_P} (h : pg_Q T E) (d : pg_D T E) {c : pg_C} (q : pg_is T 41 c = true) (z : pg_live T (pg_elem T E c).1) : nd_l T (pg_elem T E c).2 := by
  have de := pg_dtok (pg_fcomp (f := pg_exp T 55) (pg_fexp T (by decide)) (pg_fdec T))
  exact nd_c (pg_Qseq (pg_Qtok T (fun c => pg_opn (pg_stp c))) (pg_Qseq h (pg_Qtok T _) de) (pg_dseq d de) c z) (nd_kn (by decide) (nd_is q))
theorem pg_Qcall {T : pg_T} {E : pg_P} (h : pg_Q T E) (d : pg_D T E) {c : pg_C} (q : pg_is T 41 c = true) (z : pg_live T (pg_call T E c).1) : nd_l T (pg_call T E c).2 := by
  have h1 : pg_Q T (pg_ite (pg_is T 53) pg_nil (pg_sep T E pg_M)) := pg_Qite (pg_Qnil T) (pg_Qsep d h pg_M)
  have d1 : pg_D T (pg_ite (pg_is T 53) pg_nil (pg_sep T E pg_M)) := pg_dite2 (pg_dnil T) (pg_dsep d pg_M)
  have de := pg_dtok (pg_fcomp (f := pg_exp T 53) (pg_fexp T (by decide)) (pg_fdec T))
  unfold pg_call at z ⊢
  generalize pg_ite (pg_is T 53) pg_nil (pg_sep T E pg_M) = W at *
  exact nd_c (pg_Qseq (pg_Qtok T (fun c => pg_opn (pg_stp c))) (pg_Qseq h1 (pg_Qtok T _) de) (pg_dseq d1 de) c z) (nd_kn (by decide) (nd_is q))
theorem pg_Qoper {T : pg_T} {X : Nat → pg_P} (h : ∀ m, pg_Q T (X m)) (d : ∀ m, pg_D T (X m)) : pg_Q T (pg_oper T X) := by
  have de := pg_dtok (pg_fcomp (f := pg_exp T 53) (pg_fexp T (by decide)) (pg_fdec T))
  have dd := pg_dtok (pg_fdec T)
  refine pg_Qite (pg_Qnode (pg_Qseq (pg_Qtok T _) (pg_Qseq (h 0) (pg_Qtok T _) dd) (pg_dseq (d 0) dd)) (fun c _ => ⟨by decide, fun z => by omega, fun z => by omega, fun _ => ?_, fun z => by omega, fun z => by omega, fun z => by omega⟩)) (pg_Qite (pg_Qconst T) (pg_Qite (pg_Qseq (pg_Qtok T _) (pg_Qseq (h 2) (pg_Qtok T _) de) (pg_dseq (d 2) de)) (pg_Qit (fun c q z => ?_) (fun c _ _ => nd_0 T))))
  · by_cases w : pg_is T 34 c = true
    · exact Or.inr (if_pos w)
    · exact Or.inl (if_neg w)
  · revert z
    unfold pg_ite
    cases pg_next T 54 c
    · cases pg_next T 52 c
      · exact pg_Qnout c
      · exact pg_Qcall (h 2) (d 2) q
    · exact pg_Qelem (h 2) (d 2) q
theorem nd_sg {k g : Nat} (h : pg_sign k = some g) : g ≤ 13 := by
  unfold pg_sign at h
  by_cases h0 : k = 30
  · rw [if_pos h0] at h
    have := Option.some.inj h
    omega
  rw [if_neg h0] at h
  by_cases h1 : k = 31
  · rw [if_pos h1] at h
    have := Option.some.inj h
    omega
  rw [if_neg h1] at h
  by_cases h2 : k = 32 ∨ k = 67
  · rw [if_pos h2] at h
    have := Option.some.inj h
    omega
  rw [if_neg h2] at h
  by_cases h3 : k = 64
  · rw [if_pos h3] at h
    have := Option.some.inj h
    omega
  rw [if_neg h3] at h
  by_cases h4 : k = 51
  · rw [if_pos h4] at h
    have := Option.some.inj h
    omega
  rw [if_neg h4] at h
  by_cases h5 : k = 65
  · rw [if_pos h5] at h
    have := Option.some.inj h
    omega
  rw [if_neg h5] at h
  by_cases h6 : k = 66
  · rw [if_pos h6] at h
    have := Option.some.inj h
    omega
  rw [if_neg h6] at h
  by_cases h7 : k = 49
  · rw [if_pos h7] at h
    have := Option.some.inj h
    omega
  rw [if_neg h7] at h
  by_cases h8 : k = 50
  · rw [if_pos h8] at h
    have := Option.some.inj h
    omega
  rw [if_neg h8] at h
  by_cases h9 : k = 60
  · rw [if_pos h9] at h
    have := Option.some.inj h
    omega
  rw [if_neg h9] at h
  by_cases h10 : k = 61
  · rw [if_pos h10] at h
    have := Option.some.inj h
    omega
  rw [if_neg h10] at h
  by_cases h11 : k = 62
  · rw [if_pos h11] at h
    have := Option.some.inj h
    omega
  rw [if_neg h11] at h
  by_cases h12 : k = 63
  · rw [if_pos h12] at h
    have := Option.some.inj h
    omega
  rw [if_neg h12] at h
  by_cases h13 : k = 33
  · rw [if_pos h13] at h
    have := Option.some.inj h
    omega
  rw [if_neg h13] at h
  cases h
theorem pg_Qmore {T : pg_T} {X : Nat → pg_P} (h : ∀ m, pg_Q T (X m)) (d : ∀ m, pg_D T (X m)) (m : Nat) : ∀ (n : Nat) (c : pg_C) (s : List pg_N), nd_l T s → pg_live T (pg_more T X m n c s).1 → nd_l T (pg_more T X m n c s).2
  | 0, _, _, g, _ => g
  | n + 1, c, s, g, q => by
    unfold pg_more at q ⊢
    revert q
    cases e : pg_sign (pg_k T c) with
    | none => intro _; exact g
    | some s1 =>
      show pg_live T (if m ≤ pg_bind s1 + 2 then _ else _ : pg_C × List pg_N).1 → nd_l T (if m ≤ pg_bind s1 + 2 then _ else _ : pg_C × List pg_N).2
      by_cases w : m ≤ pg_bind s1 + 2
      · rw [if_pos w]
        intro q
        have h2 := pg_bkmore q
        exact pg_Qmore h d m n _ _ (nd_c (nd_a g (h _ _ h2)) ⟨by decide, fun z => by omega, fun _ => ⟨s1, nd_sg e, rfl⟩, fun z => by omega, fun z => by omega, fun z => by omega, fun z => by omega⟩) q
      · rw [if_neg w]
        intro _; exact g
theorem pg_QX (T : pg_T) : ∀ f m, pg_Q T (pg_X T f m)
  | 0, _ => pg_Qtok T _
  | f + 1, m => fun c z => by
    unfold pg_X at z ⊢
    by_cases q : m = 0
    · rw [if_pos q] at z ⊢
      exact pg_Qoper (pg_QX T f) (pg_dX T f) c z
    · rw [if_neg q] at z ⊢
      unfold pg_expr pg_rst at z ⊢
      have z' : pg_live T (pg_more T (pg_X T f) m pg_M (pg_X T f 0 c).1 (pg_X T f 0 c).2).1 := by
        by_cases w : m = 1
        · rw [if_pos w] at z; exact z
        · rw [if_neg w] at z; exact z
      exact pg_Qmore (pg_QX T f) (pg_dX T f) m pg_M _ _ (pg_QX T f 0 c (pg_bkmore z')) z'
theorem pg_QE (T : pg_T) : pg_Q T (pg_E T) := pg_QX T 200 1
theorem pg_Qbody {T : pg_T} {B : pg_P} (h : pg_Q T B) : pg_Q T (pg_body T B) := pg_Qnode h (fun c _ => nd_k0 (by decide))
theorem pg_Qasg {T : pg_T} {c : pg_C} (q : pg_is T 41 c = true) (z : pg_live T (pg_asg T c).1) : nd_l T (pg_asg T c).2 := by
  have z1 : pg_live T (pg_exp T 47 (pg_targ T c).1) := pg_bk (pg_dE T) z
  have z2 := pg_fbk (pg_fexp T (by decide)) z1
  have ht : nd_l T (pg_targ T c).2 := by
    unfold pg_targ pg_ite at z2 ⊢
    revert z2
    cases pg_next T 54 c
    · exact pg_Qname T c
    · exact pg_Qelem (pg_QE T) (pg_dE T) q
  unfold pg_asg
  exact nd_c (nd_a ht (pg_QE T _ z)) (nd_k0 (by decide))
theorem pg_Qpar (T : pg_T) : pg_Q T (pg_par T) := pg_Qnode (pg_Qseq (pg_Qtok T (fun c => pg_exp T 47 (pg_exp T 41 c))) (pg_QE T) (pg_dE T)) (fun c z => by
  have z1 : pg_live T (pg_exp T 47 (pg_exp T 41 c)) := pg_bk (pg_dE T) z
  exact nd_kn (by decide) (nd_ex (pg_fbk (pg_fexp T (by decide)) z1)))
theorem pg_Qinv {T : pg_T} {c : pg_C} (q : pg_is T 41 c = true) (z : pg_live T (pg_inv T c).1) : nd_l T (pg_inv T c).2 := by
  have h1 : pg_Q T (pg_ite (pg_is T 53) pg_nil (pg_sep T (pg_par T) pg_M)) := pg_Qite (pg_Qnil T) (pg_Qsep (pg_dpar T) (pg_Qpar T) pg_M)
  have d1 : pg_D T (pg_ite (pg_is T 53) pg_nil (pg_sep T (pg_par T) pg_M)) := pg_dite2 (pg_dnil T) (pg_dsep (pg_dpar T) pg_M)
  have de := pg_dtok (pg_fcomp (f := pg_exp T 53) (pg_fexp T (by decide)) (pg_fdec T))
  have e : pg_inv T = pg_node 13 (pg_pl T) (pg_v T) (pg_seq (pg_tok (fun c => pg_opn (pg_stp c))) (pg_seq (pg_ite (pg_is T 53) pg_nil (pg_sep T (pg_par T) pg_M)) (pg_tok (fun c => pg_exp T 53 (pg_dec c))))) := rfl
  rw [e] at z ⊢
  generalize pg_ite (pg_is T 53) pg_nil (pg_sep T (pg_par T) pg_M) = W at *
  exact nd_c (pg_Qseq (pg_Qtok T (fun c => pg_opn (pg_stp c))) (pg_Qseq h1 (pg_Qtok T _) de) (pg_dseq d1 de) c z) (nd_kn (by decide) (nd_is q))
theorem pg_Qcond {T : pg_T} {B : pg_P} (h : pg_Q T B) (d : pg_D T B) : pg_Q T (pg_cond T B) := pg_Qseq (pg_QE T) (pg_Qseq (pg_Qtok T _) (pg_Qbody h) (pg_dbody d)) (pg_dseq (pg_dtok (pg_fexp T (by decide))) (pg_dbody d))
theorem pg_Qelse {T : pg_T} {B : pg_P} (h : pg_Q T B) (d : pg_D T B) : pg_Q T (pg_else T B) := pg_Qite (pg_Qseq (pg_Qtok T _) (pg_Qbody h) (pg_dbody d)) (pg_Qnil T)
theorem pg_Qif {T : pg_T} {B : pg_P} (h : pg_Q T B) (d : pg_D T B) : pg_Q T (pg_if T B) := by
  have hw := pg_Qwhl (T := T) (pg_gis T (k := 18) (by decide)) (fun c _ z => pg_Qseq (pg_Qtok T pg_stp) (pg_Qcond h d) (pg_dcond d) c z) pg_M
  have dw : pg_D T (pg_whl (pg_is T 18) (pg_seq (pg_tok pg_stp) (pg_cond T B)) pg_M) := pg_dwhl (pg_gis T (by decide)) pg_M
  unfold pg_if
  generalize pg_whl (pg_is T 18) (pg_seq (pg_tok pg_stp) (pg_cond T B)) pg_M = W at *
  have de := pg_dtok (pg_fcomp (f := pg_dec) (pg_fdec T) (pg_fexp T (k := 20) (by decide)))
  have d1 := pg_dseq (pg_delse (T := T) (B := B)) de
  have d2 := pg_dseq dw d1
  exact pg_Qnode (pg_Qseq (pg_Qtok T _) (pg_Qseq (pg_Qcond h d) (pg_Qseq hw (pg_Qseq (pg_Qelse h d) (pg_Qtok T _) de) d1) d2) (pg_dseq (pg_dcond d) d2)) (fun c _ => nd_k0 (by decide))
theorem pg_Qrange (T : pg_T) : pg_Q T (pg_range T) := pg_Qnode (pg_Qseq (pg_Qconst T) (pg_Qite (pg_Qseq (pg_Qtok T _) (pg_Qconst T) (pg_dconst T)) (pg_Qnil T)) (pg_dite (pg_gis T (by decide)) (pg_dnil T))) (fun c _ => nd_k0 (by decide))
theorem pg_Qchoice {T : pg_T} {B : pg_P} (h : pg_Q T B) (d : pg_D T B) : pg_Q T (pg_choice T B) := by
  have hs := pg_Qsep (pg_drange T) (pg_Qrange T) pg_M
  unfold pg_choice
  generalize pg_sep T (pg_range T) pg_M = W at *
  exact pg_Qnode (pg_Qseq hs (pg_Qseq (pg_Qtok T _) (pg_Qbody h) (pg_dbody d)) (pg_dseq (pg_dtok (pg_fexp T (by decide))) (pg_dbody d))) (fun c _ => nd_k0 (by decide))
theorem pg_Qcase {T : pg_T} {B : pg_P} (h : pg_Q T B) (d : pg_D T B) : pg_Q T (pg_case T B) := by
  have hw := pg_Qwhl (T := T) (pg_gany T (ks := [42, 61, 35, 36]) (by decide)) (fun c _ z => pg_Qchoice h d c z) pg_M
  have dw : pg_D T (pg_whl (pg_any T [42, 61, 35, 36]) (pg_choice T B) pg_M) := pg_dwhl (pg_gany T (by decide)) pg_M
  unfold pg_case
  generalize pg_whl (pg_any T [42, 61, 35, 36]) (pg_choice T B) pg_M = W at *
  have de := pg_dtok (pg_fcomp (f := pg_dec) (pg_fdec T) (pg_fexp T (k := 22) (by decide)))
  have d1 := pg_dseq (pg_delse (T := T) (B := B)) de
  have d2 := pg_dseq dw d1
  have d3 := pg_dseq (pg_dtok (pg_fexp T (k := 15) (by decide))) d2
  exact pg_Qnode (pg_Qseq (pg_Qtok T _) (pg_Qseq (pg_QE T) (pg_Qseq (pg_Qtok T _) (pg_Qseq hw (pg_Qseq (pg_Qelse h d) (pg_Qtok T _) de) d1) d2) d3) (pg_dseq (pg_dE T) d3)) (fun c _ => nd_k0 (by decide))
theorem pg_Qfor {T : pg_T} {B : pg_P} (h : pg_Q T B) (d : pg_D T B) : pg_Q T (pg_for T B) := by
  have hi : pg_Q T (pg_ite (pg_is T 25) (pg_seq (pg_tok pg_stp) (pg_const T)) pg_nil) := pg_Qite (pg_Qseq (pg_Qtok T _) (pg_Qconst T) (pg_dconst T)) (pg_Qnil T)
  have di : pg_D T (pg_ite (pg_is T 25) (pg_seq (pg_tok pg_stp) (pg_const T)) pg_nil) := pg_dite (pg_gis T (by decide)) (pg_dnil T)
  have de := pg_dtok (pg_fcomp (f := pg_dec) (pg_fdec T) (pg_fexp T (k := 27) (by decide)))
  have d1 := pg_dseq (pg_dbody d) de
  have d2 := pg_dseq (pg_dtok (pg_fexp T (k := 26) (by decide))) d1
  have d3 := pg_dseq di d2
  have d4 := pg_dseq (pg_dconst T) d3
  have d5 := pg_dseq (pg_dtok (pg_fexp T (k := 24) (by decide))) d4
  have d6 := pg_dseq (pg_dconst T) d5
  unfold pg_for
  refine pg_Qnode (pg_Qseq (pg_Qtok T (fun c => pg_exp T 47 (pg_exp T 41 (pg_opn c)))) (pg_Qseq (pg_Qconst T) (pg_Qseq (pg_Qtok T _) (pg_Qseq (pg_Qconst T) (pg_Qseq hi (pg_Qseq (pg_Qtok T _) (pg_Qseq (pg_Qbody h) (pg_Qtok T _) de) d1) d2) d3) d4) d5) d6) (fun c z => ?_)
  have z1 : pg_live T (pg_exp T 47 (pg_exp T 41 (pg_opn c))) := pg_bk d6 z
  exact nd_kn (by decide) (nd_ex (pg_fbk (pg_fexp T (by decide)) z1))
theorem pg_Qstmt {T : pg_T} {B : pg_P} (h : pg_Q T B) (d : pg_D T B) : pg_Q T (pg_stmt T B) := by
  have l20 : pg_Q T (pg_leaf T 20 (fun _ => 0) pg_stp) := pg_Qleaf (fun c _ => nd_k0 (by decide))
  have l21 : pg_Q T (pg_leaf T 21 (fun _ => 0) pg_stp) := pg_Qleaf (fun c _ => nd_k0 (by decide))
  unfold pg_stmt
  refine pg_Qseq (pg_Qite (pg_Qnil T) (pg_Qit (fun c q z => ?_) (fun c _ z => ?_))) (pg_Qtok T _) (pg_dtok (pg_fexp T (by decide)))
  · revert z
    unfold pg_ite
    cases pg_next T 52 c
    · exact pg_Qasg q
    · exact pg_Qinv q
  · exact pg_Qite (pg_Qif h d) (pg_Qite (pg_Qcase h d) (pg_Qite (pg_Qfor h d) (pg_Qite l20 l21))) c z
theorem pg_QB (T : pg_T) : ∀ f, pg_Q T (pg_B T f)
  | 0 => pg_Qnil T
  | f + 1 => pg_Qwhl (pg_gany T (by decide)) (fun c _ z => pg_Qstmt (pg_QB T f) (pg_dB T f) c z) pg_M
theorem nd_mk (T : pg_T) (x y z : Nat) (c : pg_C) (k : Nat) (hk : k = 25 ∨ k = 28) : nd_k T k (nI (pg_mark T x y z c)) := by
  refine ⟨by omega, fun z => by omega, fun z => by omega, fun z => by omega, fun _ => ⟨_, ?_, rfl⟩, fun z => by omega, fun z => by omega⟩
  unfold pg_mark
  repeat' split
  all_goals omega
theorem pg_Qcell (T : pg_T) : pg_Q T (pg_cell T) := by
  have l26 : pg_Q T (pg_leaf T 26 (fun _ => 0) pg_stp) := pg_Qleaf (fun c _ => nd_k0 (by decide))
  have l27 : pg_Q T (pg_leaf T 27 (fun _ => 0) pg_stp) := pg_Qleaf (fun c _ => nd_k0 (by decide))
  have de := pg_dtok (pg_fexp T (k := 53) (by decide))
  exact pg_Qite l26 (pg_Qite l27 (pg_Qite (pg_Qnode (pg_Qseq (pg_Qtok T _) (pg_Qseq (pg_Qname T) (pg_Qtok T _) de) (pg_dseq (pg_dname T) de)) (fun c _ => nd_mk T _ _ _ _ 28 (Or.inr rfl))) (pg_Qnode (pg_Qseq (pg_Qtok T _) pg_Qnout (pg_dnout T)) (fun c _ => nd_mk T _ _ _ _ 25 (Or.inl rfl)))))
theorem pg_Qcells (T : pg_T) : ∀ n, pg_Q T (pg_cells T n)
  | 0 => pg_Qnil T
  | n + 1 => by
    have l29 : pg_Q T (pg_leaf T 29 (fun _ => 0) pg_stp) := pg_Qleaf (fun c _ => nd_k0 (by decide))
    exact pg_Qseq (pg_Qcell T) (pg_Qite (pg_Qseq l29 (pg_Qcells T n) (pg_dcells T n)) (pg_Qite (pg_Qcells T n) (pg_Qnil T))) (pg_dite (pg_gis T (by decide)) (pg_dite (pg_gany T (by decide)) (pg_dnil T)))
theorem pg_Qrow (T : pg_T) : pg_Q T (pg_row T) := pg_Qnode (pg_Qseq (pg_Qcells T pg_M) (pg_Qtok T _) (pg_dtok (pg_fexp T (by decide)))) (fun c _ => nd_k0 (by decide))
theorem pg_Qrung (T : pg_T) : pg_Q T (pg_rung T) := by
  have hw := pg_Qwhl (T := T) (p := pg_isc T) (pg_gany T (by decide)) (fun c _ z => pg_Qrow T c z) pg_M
  have dw : pg_D T (pg_whl (pg_isc T) (pg_row T) pg_M) := pg_dwhl (pg_gany T (by decide)) pg_M
  unfold pg_rung
  generalize pg_whl (pg_isc T) (pg_row T) pg_M = W at *
  have de := pg_dtok (pg_fexp T (k := 40) (by decide))
  have d1 := pg_dseq dw de
  exact pg_Qnode (pg_Qseq (pg_Qtok T _) (pg_Qseq (pg_Qrow T) (pg_Qseq hw (pg_Qtok T _) de) d1) (pg_dseq (pg_drow T) d1)) (fun c _ => nd_k0 (by decide))
theorem pg_Qladd (T : pg_T) : pg_Q T (pg_ladd T) := by
  have hw := pg_Qwhl (T := T) (pg_gis T (k := 39) (by decide)) (fun c _ z => pg_Qrung T c z) pg_M
  have dw : pg_D T (pg_whl (pg_is T 39) (pg_rung T) pg_M) := pg_dwhl (pg_gis T (by decide)) pg_M
  unfold pg_ladd
  generalize pg_whl (pg_is T 39) (pg_rung T) pg_M = W at *
  have de := pg_dtok (pg_fexp T (k := 38) (by decide))
  exact pg_Qnode (pg_Qseq (pg_Qtok T _) (pg_Qseq hw (pg_Qtok T _) de) (pg_dseq dw de)) (fun c _ => nd_k0 (by decide))
theorem pg_Qblock {T : pg_T} {c : pg_C} (hc : pg_any T [0, 2, 4] c = true) (z : pg_live T (pg_block T c).1) : nd_l T (pg_block T c).2 := by
  have hw := pg_Qwhl (T := T) (pg_gany T (ks := [6, 7, 8]) (by decide)) (fun c q z => pg_Qsect q z) pg_M
  have dw : pg_D T (pg_whl (pg_any T [6, 7, 8]) (pg_sect T) pg_M) := pg_dwhl (pg_gany T (by decide)) pg_M
  have hx : pg_Q T (pg_ite (pg_is T 37) (pg_ladd T) (pg_body T (pg_B T 100))) := pg_Qite (pg_Qladd T) (pg_Qbody (pg_QB T 100))
  have dx : pg_D T (pg_ite (pg_is T 37) (pg_ladd T) (pg_body T (pg_B T 100))) := pg_dite (pg_gis T (by decide)) (pg_dbody (pg_dB T 100))
  have hk : pg_k T c = 0 ∨ pg_k T c = 2 ∨ pg_k T c = 4 := by unfold pg_any at hc; simpa using hc
  have de : pg_D T (pg_tok (pg_exp T (pg_k T c + 1))) := pg_dtok (pg_fexp T (by omega))
  have hi : pg_Q T (if pg_is T 0 c then pg_seq (pg_tok (pg_exp T 58)) (pg_simple T) else pg_nil) ∧ pg_D T (if pg_is T 0 c then pg_seq (pg_tok (pg_exp T 58)) (pg_simple T) else pg_nil) := by
    by_cases q : pg_is T 0 c = true
    · rw [if_pos q]; exact ⟨pg_Qseq (pg_Qtok T _) (pg_Qsimple T) (pg_dsimple T), pg_dseq (pg_dtok (pg_fexp T (by decide))) (pg_dsimple T)⟩
    · rw [if_neg q]; exact ⟨pg_Qnil T, pg_dnil T⟩
  unfold pg_block at z ⊢
  generalize pg_whl (pg_any T [6, 7, 8]) (pg_sect T) pg_M = W at *
  generalize pg_ite (pg_is T 37) (pg_ladd T) (pg_body T (pg_B T 100)) = X at *
  generalize (if pg_is T 0 c then pg_seq (pg_tok (pg_exp T 58)) (pg_simple T) else pg_nil) = I at *
  have d1 := pg_dseq dx de
  have d2 := pg_dseq dw d1
  have d3 := pg_dseq hi.2 d2
  have H := pg_Qseq (pg_Qtok T (fun c => pg_exp T 41 (pg_stp c))) (pg_Qseq hi.1 (pg_Qseq hw (pg_Qseq hx (pg_Qtok T _) de) d1) d2) d3
  have z1 : pg_live T (pg_exp T 41 (pg_stp c)) := pg_bk d3 z
  exact nd_c (H c z) (nd_kn (by omega) (nd_ex z1))
theorem pg_Qblocks (T : pg_T) (n : Nat) : pg_Q T (pg_whl (pg_any T [0, 2, 4]) (pg_block T) n) := pg_Qwhl (pg_gany T (by decide)) (fun c q z => pg_Qblock q z) n
