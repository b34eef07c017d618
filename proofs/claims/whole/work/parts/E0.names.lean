/-! HOW MANY NAMES: a node of kind 1 or 6 for each of them at most -/
def cvl (l : List pg_N) : Nat := (l.filter (fun x => decide (x.1 = 1 ∨ x.1 = 6))).length
theorem cvl_a (a b : List pg_N) : cvl (a ++ b) = cvl a + cvl b := by
  unfold cvl
  rw [List.filter_append, List.length_append]
theorem cvl_n {k p z : Nat} {v : Int32} {l : List pg_N} (h : k ≠ 1 ∧ k ≠ 6) : cvl ((k, p, v, z) :: l) = cvl l := by
  unfold cvl
  rw [List.filter_cons_of_neg (by intro w; have w := of_decide_eq_true w; exact w.elim h.1 h.2)]
theorem cvl_1 {x : pg_N} {l : List pg_N} : cvl (x :: l) ≤ cvl l + 1 := by
  unfold cvl
  by_cases w : decide (x.1 = 1 ∨ x.1 = 6) = true
  · rw [List.filter_cons_of_pos (p := fun x : pg_N => decide (x.1 = 1 ∨ x.1 = 6)) w, List.length_cons]; exact Nat.le_refl _
  · rw [List.filter_cons_of_neg (p := fun x : pg_N => decide (x.1 = 1 ∨ x.1 = 6)) w]; omega
def nmc (T : pg_T) : Nat → Nat
  | 0 => 0
  | i + 1 => nmc T i + (if T.1 i = 41 then 1 else 0)
theorem nmc_m {T : pg_T} {i : Nat} : ∀ {j : Nat}, i ≤ j → nmc T i ≤ nmc T j
  | 0, h => by rw [show i = 0 by omega]; exact Nat.le_refl _
  | j + 1, h => by
    rcases Nat.eq_or_lt_of_le h with w | w
    · rw [w]; exact Nat.le_refl _
    · exact Nat.le_trans (nmc_m (j := j) (by omega)) (Nat.le_add_right _ _)
theorem nmc_1 {T : pg_T} {i : Nat} (h : T.1 i = 41) : nmc T (i + 1) = nmc T i + 1 := by
  show nmc T i + (if T.1 i = 41 then 1 else 0) = _
  rw [if_pos h]
def pg_J (T : pg_T) (a : pg_P) : Prop := ∀ c, pg_live T (a c).1 → cvl (a c).2 + nmc T c.1 ≤ nmc T (a c).1.1
theorem pg_Jnil (T : pg_T) : pg_J T pg_nil := fun c _ => by show cvl [] + _ ≤ nmc T c.1; exact Nat.le_of_eq (Nat.zero_add _)
theorem pg_Jseq {T : pg_T} {a b : pg_P} (ha : pg_J T a) (hb : pg_J T b) (db : pg_D T b) : pg_J T (pg_seq a b) := fun c z => by
  have h1 := ha c (pg_bk db z)
  have h2 := hb _ z
  show cvl ((a c).2 ++ (b (a c).1).2) + nmc T c.1 ≤ nmc T (b (a c).1).1.1
  rw [cvl_a]
  omega
theorem pg_Jite {T : pg_T} {p : pg_C → Bool} {a b : pg_P} (ha : pg_J T a) (hb : pg_J T b) : pg_J T (pg_ite p a b) := fun c z => by
  unfold pg_ite at *
  revert z
  cases p c
  · exact hb c
  · exact ha c
theorem pg_Jnode {T : pg_T} {k : Nat} {p : pg_C → Nat} {v : pg_C → Int32} {a : pg_P} (hk : k ≠ 1 ∧ k ≠ 6) (ha : pg_J T a) : pg_J T (pg_node k p v a) := fun c z => by
  have := ha c z
  show cvl ((k, p c, v c, (a c).2.length + 1) :: (a c).2) + nmc T c.1 ≤ nmc T (a c).1.1
  rw [cvl_n hk]
  exact this
theorem pg_Jtok {T : pg_T} {f : pg_C → pg_C} (h : ∀ c, c.1 ≤ (f c).1) : pg_J T (pg_tok f) := fun c _ => by
  show cvl [] + nmc T c.1 ≤ nmc T (f c).1
  rw [show cvl [] = 0 from rfl, Nat.zero_add]
  exact nmc_m (h c)
theorem pg_Jexp (T : pg_T) (k : Nat) : pg_J T (pg_tok (pg_exp T k)) := pg_Jtok (fun _ => pg_iexp)
theorem pg_Jstp (T : pg_T) : pg_J T (pg_tok pg_stp) := pg_Jtok (fun _ => pg_istp)
theorem pg_Jop {T : pg_T} {g : pg_C → pg_C} (hg : ∀ c, c.1 ≤ (g c).1) : pg_J T (pg_tok (fun c => pg_opn (g c))) := pg_Jtok (fun c => Nat.le_trans (hg c) pg_iopn)
theorem pg_Jse {T : pg_T} (k : Nat) : pg_J T (pg_tok (fun c => pg_exp T k (pg_stp c))) := pg_Jtok (fun _ => Nat.le_trans pg_istp pg_iexp)
theorem pg_Jee {T : pg_T} (k j : Nat) : pg_J T (pg_tok (fun c => pg_exp T k (pg_exp T j c))) := pg_Jtok (fun _ => Nat.le_trans pg_iexp pg_iexp)
theorem pg_Jed {T : pg_T} (k : Nat) : pg_J T (pg_tok (fun c => pg_exp T k (pg_dec c))) := pg_Jtok (fun c => pg_iexp (T := T) (k := k) (c := pg_dec c))
theorem pg_Jde {T : pg_T} (k : Nat) : pg_J T (pg_tok (fun c => pg_dec (pg_exp T k c))) := pg_Jtok (fun c => pg_iexp (T := T) (k := k) (c := c))
theorem pg_Jstop (T : pg_T) : pg_J T (pg_tok pg_stop) := pg_Jtok (fun _ => Nat.le_refl _)
theorem pg_Jleaf {T : pg_T} {k : Nat} {v : pg_C → Int32} {f : pg_C → pg_C} (hk : k ≠ 1 ∧ k ≠ 6) (h : pg_J T (pg_tok f)) : pg_J T (pg_leaf T k v f) := fun c z => by
  have h1 : cvl [] + nmc T c.1 ≤ nmc T (f c).1 := h c z
  show cvl [(k, pg_pl T c, v c, 1)] + nmc T c.1 ≤ nmc T (f c).1
  rw [cvl_n hk]
  exact h1
theorem pg_Jwhl {T : pg_T} {p : pg_C → Bool} {a : pg_P} (hp : pg_G T p) (ha : pg_J T a) : ∀ n, pg_J T (pg_whl p a n)
  | 0 => pg_Jnil T
  | n + 1 => pg_Jite (pg_Jseq ha (pg_Jwhl hp ha n) (pg_dwhl hp n)) (pg_Jnil T)
theorem pg_Jsep {T : pg_T} {a : pg_P} (ha : pg_J T a) (da : pg_D T a) : ∀ n, pg_J T (pg_sep T a n)
  | 0 => pg_Jnil T
  | n + 1 => pg_Jseq ha (pg_Jite (pg_Jseq (pg_Jstp T) (pg_Jsep ha da n) (pg_dsep da n)) (pg_Jnil T)) (pg_dite (pg_gis T (by decide)) (pg_dnil T))
/-- a name is one -/
theorem pg_Jn {T : pg_T} {c : pg_C} (z : pg_live T (pg_exp T 41 c)) : nmc T c.1 + 1 ≤ nmc T (pg_exp T 41 c).1 := by
  obtain ⟨h1, h2, h3⟩ := pg_exl (k := 41) (by decide) z
  rw [h3]
  show _ ≤ nmc T (c.1 + 1)
  rw [nmc_1 h2]
  exact Nat.le_refl _
theorem pg_Jname (T : pg_T) : pg_J T (pg_name T) := fun c z => by
  have h := pg_Jn (T := T) (c := c) z
  show cvl [(6, pg_pl T c, pg_v T c, 1)] + nmc T c.1 ≤ nmc T (pg_exp T 41 c).1
  have := cvl_1 (x := (6, pg_pl T c, pg_v T c, 1)) (l := [])
  rw [show cvl [] = 0 from rfl] at this
  omega
theorem pg_Jsimple (T : pg_T) : pg_J T (pg_simple T) := pg_Jite (pg_Jleaf (by decide) (pg_Jstp T)) (pg_Jstop T)
theorem pg_Jconst (T : pg_T) : pg_J T (pg_const T) := pg_Jite (pg_Jleaf (by decide) (pg_Jstp T)) (pg_Jite (pg_Jleaf (by decide) (pg_Jse _)) (pg_Jleaf (by decide) (pg_Jexp T _)))
theorem pg_Jnout (T : pg_T) : pg_J T (pg_nout T) := fun c z => by
  unfold pg_nout pg_ite at *
  revert z
  cases pg_is T 59 (pg_exp T 41 c)
  · intro z
    exact pg_Jname T c z
  · intro z
    have z : pg_live T (pg_exp T 41 (pg_stp (pg_exp T 41 c))) := z
    have h1 := pg_Jn (T := T) (c := pg_stp (pg_exp T 41 c)) z
    have h2 := nmc_m (T := T) (Nat.le_trans (pg_iexp (T := T) (k := 41) (c := c)) (pg_istp (c := pg_exp T 41 c)))
    show cvl [(33, pg_pl T c, pg_v T c, 2), (6, pg_pl T (pg_stp (pg_exp T 41 c)), pg_v T (pg_stp (pg_exp T 41 c)), 1)] + nmc T c.1 ≤ nmc T (pg_exp T 41 (pg_stp (pg_exp T 41 c))).1
    rw [cvl_n (by decide)]
    have := cvl_1 (x := (6, pg_pl T (pg_stp (pg_exp T 41 c)), pg_v T (pg_stp (pg_exp T 41 c)), 1)) (l := [])
    rw [show cvl [] = 0 from rfl] at this
    omega
theorem pg_Jelem {T : pg_T} {E : pg_P} (h : pg_J T E) (d : pg_D T E) : pg_J T (pg_elem T E) := pg_Jnode (by decide) (pg_Jseq (pg_Jop (g := pg_stp) (fun _ => pg_istp)) (pg_Jseq h (pg_Jed 55) (pg_dtok (pg_fcomp (pg_fexp T (by decide)) (pg_fdec T)))) (pg_dseq d (pg_dtok (pg_fcomp (pg_fexp T (by decide)) (pg_fdec T)))))
theorem pg_Jcall {T : pg_T} {E : pg_P} (h : pg_J T E) (d : pg_D T E) : pg_J T (pg_call T E) := by
  have d1 : pg_D T (pg_tok (fun c => pg_exp T 53 (pg_dec c))) := pg_dtok (pg_fcomp (pg_fexp T (by decide)) (pg_fdec T))
  have h1 : pg_J T (pg_ite (pg_is T 53) pg_nil (pg_sep T E pg_M)) := pg_Jite (pg_Jnil T) (pg_Jsep h d pg_M)
  have h2 : pg_D T (pg_ite (pg_is T 53) pg_nil (pg_sep T E pg_M)) := pg_dite2 (pg_dnil T) (pg_dsep d pg_M)
  exact pg_Jnode (by decide) (pg_Jseq (pg_Jop (g := pg_stp) (fun _ => pg_istp)) (pg_Jseq h1 (pg_Jed 53) d1) (pg_dseq h2 d1))
theorem pg_Joper {T : pg_T} {X : Nat → pg_P} (h : ∀ m, pg_J T (X m)) (d : ∀ m, pg_D T (X m)) : pg_J T (pg_oper T X) := by
  have d1 : pg_D T (pg_tok (fun c => pg_exp T 53 (pg_dec c))) := pg_dtok (pg_fcomp (pg_fexp T (by decide)) (pg_fdec T))
  have d2 : pg_D T (pg_tok pg_dec) := pg_dtok (pg_fdec T)
  have l2 : pg_J T (pg_tok pg_dec) := pg_Jtok (fun _ => Nat.le_refl _)
  refine pg_Jite ?_ (pg_Jite (pg_Jconst T) (pg_Jite ?_ (pg_Jite (pg_Jite (pg_Jelem (h 2) (d 2)) (pg_Jite (pg_Jcall (h 2) (d 2)) (pg_Jnout T))) (pg_Jstop T))))
  · exact pg_Jnode (by decide) (pg_Jseq (pg_Jop (g := id) (fun _ => Nat.le_refl _)) (pg_Jseq (h 0) l2 d2) (pg_dseq (d 0) d2))
  · exact pg_Jseq (pg_Jop (g := id) (fun _ => Nat.le_refl _)) (pg_Jseq (h 2) (pg_Jed 53) d1) (pg_dseq (d 2) d1)
theorem pg_Jmore {T : pg_T} {X : Nat → pg_P} (h : ∀ m, pg_J T (X m)) (d : ∀ m, pg_D T (X m)) (m : Nat) : ∀ (n : Nat) (c : pg_C) (s : List pg_N), pg_live T (pg_more T X m n c s).1 → cvl (pg_more T X m n c s).2 + nmc T c.1 ≤ nmc T (pg_more T X m n c s).1.1 + cvl s
  | 0, c, s, _ => by show cvl s + nmc T c.1 ≤ nmc T c.1 + cvl s; omega
  | n + 1, c, s, z => by
    unfold pg_more at z ⊢
    revert z
    cases hs : pg_sign (pg_k T c) with
    | none => intro _; show cvl s + nmc T c.1 ≤ nmc T c.1 + cvl s; omega
    | some g =>
      show pg_live T (if m ≤ pg_bind g + 2 then _ else _ : pg_C × List pg_N).1 → cvl (if m ≤ pg_bind g + 2 then _ else _ : pg_C × List pg_N).2 + nmc T c.1 ≤ nmc T (if m ≤ pg_bind g + 2 then _ else _ : pg_C × List pg_N).1.1 + cvl s
      by_cases w : m ≤ pg_bind g + 2
      · rw [if_pos w]
        intro z
        have h1 := pg_Jmore h d m n _ _ z
        have h2 := pg_bkmore z
        have h3 := h _ _ h2
        have h5 := nmc_m (T := T) (pg_iopn (c := c))
        have hl : cvl ((35, pg_pl T c, nI g, (s ++ (X (pg_bind g + 3) (pg_opn c)).2).length + 1) :: (s ++ (X (pg_bind g + 3) (pg_opn c)).2)) = cvl s + cvl (X (pg_bind g + 3) (pg_opn c)).2 := by rw [cvl_n (by decide), cvl_a]
        rw [hl] at h1
        omega
      · rw [if_neg w]
        intro _; show cvl s + nmc T c.1 ≤ nmc T c.1 + cvl s; omega
theorem pg_JX (T : pg_T) : ∀ f m, pg_J T (pg_X T f m)
  | 0, _ => pg_Jstop T
  | f + 1, m => fun c z => by
    unfold pg_X at z ⊢
    by_cases q : m = 0
    · rw [if_pos q] at z ⊢
      exact pg_Joper (pg_JX T f) (pg_dX T f) c z
    · rw [if_neg q] at z ⊢
      have hz : pg_live T (pg_more T (pg_X T f) m pg_M (pg_X T f 0 c).1 (pg_X T f 0 c).2).1 := by
        unfold pg_expr pg_rst at z
        by_cases w : m = 1
        · rw [if_pos w] at z; exact z
        · rw [if_neg w] at z; exact z
      have h1 := pg_Jmore (pg_JX T f) (pg_dX T f) m pg_M _ _ hz
      have h2 := pg_JX T f 0 c (pg_bkmore hz)
      have h3 : (pg_expr T (pg_X T f) m c).1.1 = (pg_more T (pg_X T f) m pg_M (pg_X T f 0 c).1 (pg_X T f 0 c).2).1.1 := by
        unfold pg_expr pg_rst
        by_cases w : m = 1
        · rw [if_pos w]
        · rw [if_neg w]
      have h4 : (pg_expr T (pg_X T f) m c).2 = (pg_more T (pg_X T f) m pg_M (pg_X T f 0 c).1 (pg_X T f 0 c).2).2 := rfl
      rw [h3, h4]
      omega
theorem pg_JE (T : pg_T) : pg_J T (pg_E T) := pg_JX T 200 1
theorem pg_Jarray (T : pg_T) : pg_J T (pg_array T) := by
  have d1 : pg_D T (pg_seq (pg_tok (fun c => pg_exp T 15 (pg_exp T 55 c))) (pg_simple T)) := pg_dseq (pg_dtok (pg_fcomp (pg_fexp T (by decide)) (pg_fexp T (by decide)))) (pg_dsimple T)
  have l1 := pg_Jseq (pg_Jee (T := T) 15 55) (pg_Jsimple T) (pg_dsimple T)
  have d2 := pg_dseq (pg_dconst T) d1
  have l2 := pg_Jseq (pg_Jconst T) l1 d1
  have d3 := pg_dseq (pg_dtok (pg_fexp T (k := 48) (by decide))) d2
  have l3 := pg_Jseq (pg_Jexp T 48) l2 d2
  have d4 := pg_dseq (pg_dconst T) d3
  have l4 := pg_Jseq (pg_Jconst T) l3 d3
  exact pg_Jnode (by decide) (pg_Jseq (pg_Jse 54) l4 d4)
theorem pg_Jdecl (T : pg_T) : pg_J T (pg_decl T) := by
  have d1 : pg_D T (pg_tok (pg_exp T 57)) := pg_dtok (pg_fexp T (by decide))
  have a2 : pg_J T (pg_ite (pg_is T 47) (pg_seq (pg_tok pg_stp) (pg_const T)) pg_nil) := pg_Jite (pg_Jseq (pg_Jstp T) (pg_Jconst T) (pg_dconst T)) (pg_Jnil T)
  have b2 : pg_D T (pg_ite (pg_is T 47) (pg_seq (pg_tok pg_stp) (pg_const T)) pg_nil) := pg_dite (pg_gis T (by decide)) (pg_dnil T)
  have d2 := pg_dseq b2 d1
  have l2 := pg_Jseq a2 (pg_Jexp T 57) d1
  have a3 : pg_J T (pg_ite (pg_is T 14) (pg_array T) (pg_ite (pg_is T 41) (pg_leaf T 10 (pg_v T) pg_stp) (pg_simple T))) := pg_Jite (pg_Jarray T) (pg_Jite (pg_Jleaf (by decide) (pg_Jstp T)) (pg_Jsimple T))
  have b3 : pg_D T (pg_ite (pg_is T 14) (pg_array T) (pg_ite (pg_is T 41) (pg_leaf T 10 (pg_v T) pg_stp) (pg_simple T))) := pg_dite (pg_gis T (by decide)) (pg_dite (pg_gis T (by decide)) (pg_dsimple T))
  have d3 := pg_dseq b3 d2
  have l3 := pg_Jseq a3 l2 d2
  have d4 := pg_dseq (pg_dtok (pg_fexp T (k := 58) (by decide))) d3
  have l4 := pg_Jseq (pg_Jexp T 58) l3 d3
  have a5 : pg_J T (pg_ite (pg_is T 10) (pg_seq (pg_tok pg_stp) (pg_leaf T 7 (pg_v T) (pg_exp T 43))) pg_nil) := pg_Jite (pg_Jseq (pg_Jstp T) (pg_Jleaf (by decide) (pg_Jexp T 43)) (pg_dleaf (pg_fexp T (by decide)))) (pg_Jnil T)
  have b5 : pg_D T (pg_ite (pg_is T 10) (pg_seq (pg_tok pg_stp) (pg_leaf T 7 (pg_v T) (pg_exp T 43))) pg_nil) := pg_dite (pg_gis T (by decide)) (pg_dnil T)
  have d5 := pg_dseq b5 d4
  have l5 := pg_Jseq a5 l4 d4
  have hw : pg_J T (pg_whl (pg_is T 56) (pg_seq (pg_tok pg_stp) (pg_name T)) pg_M) := pg_Jwhl (pg_gis T (by decide)) (pg_Jseq (pg_Jstp T) (pg_Jname T) (pg_dname T)) pg_M
  have d6 := pg_dseq (pg_dwhl (a := pg_seq (pg_tok pg_stp) (pg_name T)) (pg_gis T (k := 56) (by decide)) pg_M) d5
  have l6 := pg_Jseq hw l5 d5
  exact pg_Jnode (by decide) (pg_Jseq (pg_Jname T) l6 d6)
theorem pg_Jsect (T : pg_T) : pg_J T (pg_sect T) := by
  have d1 : pg_D T (pg_tok (pg_exp T 9)) := pg_dtok (pg_fexp T (by decide))
  have hg : pg_G T (pg_is T 41) := pg_gis T (by decide)
  have l2 := pg_Jseq (pg_Jwhl hg (pg_Jdecl T) pg_M) (pg_Jexp T 9) d1
  have d2 := pg_dseq (pg_dwhl (a := pg_decl T) hg pg_M) d1
  exact pg_Jnode (by decide) (pg_Jseq (pg_Jstp T) l2 d2)
theorem pg_Jbody {T : pg_T} {B : pg_P} (h : pg_J T B) : pg_J T (pg_body T B) := pg_Jnode (by decide) h
theorem pg_Jcond {T : pg_T} {B : pg_P} (h : pg_J T B) (d : pg_D T B) : pg_J T (pg_cond T B) := by
  have d1 := pg_dseq (pg_dexpt T (k := 17) (by decide)) (pg_dbody (T := T) d)
  exact pg_Jseq (pg_JE T) (pg_Jseq (pg_Jexp T 17) (pg_Jbody h) (pg_dbody d)) d1
theorem pg_Jelse {T : pg_T} {B : pg_P} (h : pg_J T B) (d : pg_D T B) : pg_J T (pg_else T B) := pg_Jite (pg_Jseq (pg_Jstp T) (pg_Jbody h) (pg_dbody d)) (pg_Jnil T)
theorem pg_Jif {T : pg_T} {B : pg_P} (h : pg_J T B) (d : pg_D T B) : pg_J T (pg_if T B) := by
  have d1 : pg_D T (pg_seq (pg_else T B) (pg_tok (fun c => pg_dec (pg_exp T 20 c)))) := pg_dseq pg_delse (pg_fdx T (by decide))
  have l1 := pg_Jseq (pg_Jelse h d) (pg_Jde (T := T) 20) (pg_fdx T (by decide))
  have hg : pg_G T (pg_is T 18) := pg_gis T (by decide)
  have d2 := pg_dseq (pg_dwhl (a := pg_seq (pg_tok pg_stp) (pg_cond T B)) hg pg_M) d1
  have l2 := pg_Jseq (pg_Jwhl hg (pg_Jseq (pg_Jstp T) (pg_Jcond h d) (pg_dcond d)) pg_M) l1 d1
  exact pg_Jnode (by decide) (pg_Jseq (pg_Jop (g := id) (fun _ => Nat.le_refl _)) (pg_Jseq (pg_Jcond h d) l2 d2) (pg_dseq (pg_dcond d) d2))
theorem pg_Jrange (T : pg_T) : pg_J T (pg_range T) := by
  have d1 : pg_D T (pg_ite (pg_is T 48) (pg_seq (pg_tok pg_stp) (pg_const T)) pg_nil) := pg_dite (pg_gis T (by decide)) (pg_dnil T)
  have l1 : pg_J T (pg_ite (pg_is T 48) (pg_seq (pg_tok pg_stp) (pg_const T)) pg_nil) := pg_Jite (pg_Jseq (pg_Jstp T) (pg_Jconst T) (pg_dconst T)) (pg_Jnil T)
  exact pg_Jnode (by decide) (pg_Jseq (pg_Jconst T) l1 d1)
theorem pg_Jchoice {T : pg_T} {B : pg_P} (h : pg_J T B) (d : pg_D T B) : pg_J T (pg_choice T B) := by
  have d1 : pg_D T (pg_seq (pg_tok (pg_exp T 58)) (pg_body T B)) := pg_dseq (pg_dexpt T (by decide)) (pg_dbody d)
  exact pg_Jnode (by decide) (pg_Jseq (pg_Jsep (pg_Jrange T) (pg_drange T) pg_M) (pg_Jseq (pg_Jexp T 58) (pg_Jbody h) (pg_dbody d)) d1)
theorem pg_Jcase {T : pg_T} {B : pg_P} (h : pg_J T B) (d : pg_D T B) : pg_J T (pg_case T B) := by
  have d1 : pg_D T (pg_seq (pg_else T B) (pg_tok (fun c => pg_dec (pg_exp T 22 c)))) := pg_dseq pg_delse (pg_fdx T (by decide))
  have l1 := pg_Jseq (pg_Jelse h d) (pg_Jde (T := T) 22) (pg_fdx T (by decide))
  have hg : pg_G T (pg_any T [42, 61, 35, 36]) := pg_gany T (by decide)
  have d2 := pg_dseq (pg_dwhl (a := pg_choice T B) hg pg_M) d1
  have l2 := pg_Jseq (pg_Jwhl hg (pg_Jchoice h d) pg_M) l1 d1
  have d3 := pg_dseq (pg_dexpt T (k := 15) (by decide)) d2
  have l3 := pg_Jseq (pg_Jexp T 15) l2 d2
  exact pg_Jnode (by decide) (pg_Jseq (pg_Jop (g := id) (fun _ => Nat.le_refl _)) (pg_Jseq (pg_JE T) l3 d3) (pg_dseq (pg_dE T) d3))
theorem pg_Jfor {T : pg_T} {B : pg_P} (h : pg_J T B) (d : pg_D T B) : pg_J T (pg_for T B) := by
  have d1 : pg_D T (pg_tok (fun c => pg_dec (pg_exp T 27 c))) := pg_fdx T (by decide)
  have d2 := pg_dseq (pg_dbody (T := T) d) d1
  have l2 := pg_Jseq (pg_Jbody h) (pg_Jde (T := T) 27) d1
  have d3 := pg_dseq (pg_dexpt T (k := 26) (by decide)) d2
  have l3 := pg_Jseq (pg_Jexp T 26) l2 d2
  have lb : pg_J T (pg_ite (pg_is T 25) (pg_seq (pg_tok pg_stp) (pg_const T)) pg_nil) := pg_Jite (pg_Jseq (pg_Jstp T) (pg_Jconst T) (pg_dconst T)) (pg_Jnil T)
  have d4 := pg_dseq (pg_oby T).2 d3
  have l4 := pg_Jseq lb l3 d3
  have d5 := pg_dseq (pg_dconst T) d4
  have l5 := pg_Jseq (pg_Jconst T) l4 d4
  have d6 := pg_dseq (pg_dexpt T (k := 24) (by decide)) d5
  have l6 := pg_Jseq (pg_Jexp T 24) l5 d5
  have d7 := pg_dseq (pg_dconst T) d6
  have l7 := pg_Jseq (pg_Jconst T) l6 d6
  have l8 : pg_J T (pg_tok (fun c => pg_exp T 47 (pg_exp T 41 (pg_opn c)))) := pg_Jtok (fun c => Nat.le_trans pg_iopn (Nat.le_trans pg_iexp pg_iexp))
  exact pg_Jnode (by decide) (pg_Jseq l8 l7 d7)
theorem pg_Jtarg (T : pg_T) : pg_J T (pg_targ T) := pg_Jite (pg_Jelem (pg_JE T) (pg_dE T)) (pg_Jname T)
theorem pg_Jasg (T : pg_T) : pg_J T (pg_asg T) := fun c z => by
  have h1 := pg_JE T _ z
  have z2 := pg_bk (pg_dE T) z
  have h2 := (pg_exl (k := 47) (by decide) z2)
  have h3 := pg_Jtarg T c h2.1
  have h4 := nmc_m (T := T) (pg_iexp (T := T) (k := 47) (c := (pg_targ T c).1))
  show cvl (_ :: ((pg_targ T c).2 ++ (pg_E T (pg_exp T 47 (pg_targ T c).1)).2)) + nmc T c.1 ≤ nmc T (pg_E T (pg_exp T 47 (pg_targ T c).1)).1.1
  rw [cvl_n (by decide), cvl_a]
  omega
theorem pg_Jpar (T : pg_T) : pg_J T (pg_par T) := pg_Jnode (by decide) (pg_Jseq (pg_Jee 47 41) (pg_JE T) (pg_dE T))
theorem pg_Jinv (T : pg_T) : pg_J T (pg_inv T) := by
  have h1 : pg_J T (pg_ite (pg_is T 53) pg_nil (pg_sep T (pg_par T) pg_M)) := pg_Jite (pg_Jnil T) (pg_Jsep (pg_Jpar T) (pg_dpar T) pg_M)
  have d1 : pg_D T (pg_ite (pg_is T 53) pg_nil (pg_sep T (pg_par T) pg_M)) := pg_dite2 (pg_dnil T) (pg_dsep (pg_dpar T) pg_M)
  exact pg_Jnode (by decide) (pg_Jseq (pg_Jop (g := pg_stp) (fun _ => pg_istp)) (pg_Jseq h1 (pg_Jed (T := T) 53) (pg_fxd T (by decide))) (pg_dseq d1 (pg_fxd T (by decide))))
theorem pg_Jstmt {T : pg_T} {B : pg_P} (h : pg_J T B) (d : pg_D T B) : pg_J T (pg_stmt T B) := pg_Jseq (pg_Jite (pg_Jnil T) (pg_Jite (pg_Jite (pg_Jinv T) (pg_Jasg T)) (pg_Jite (pg_Jif h d) (pg_Jite (pg_Jcase h d) (pg_Jite (pg_Jfor h d) (pg_Jite (pg_Jleaf (by decide) (pg_Jstp T)) (pg_Jleaf (by decide) (pg_Jstp T)))))))) (pg_Jexp T 57) (pg_dexpt T (by decide))
theorem pg_JB (T : pg_T) : ∀ f, pg_J T (pg_B T f)
  | 0 => pg_Jnil T
  | f + 1 => pg_Jwhl (pg_gany T (by decide)) (pg_Jstmt (pg_JB T f) (pg_dB T f)) pg_M
theorem pg_Jskm {T : pg_T} {x y z : Nat} {g : pg_C → pg_C} (hg : ∀ c, c.1 ≤ (g c).1) : pg_J T (pg_tok (fun c => pg_skm T x y z (g c))) := pg_Jtok (fun c => by
  unfold pg_skm
  split
  · exact hg c
  · exact Nat.le_trans (hg c) pg_istp)
theorem pg_Jcont (T : pg_T) : pg_J T (pg_cont T) := pg_Jnode (by decide) (pg_Jseq (pg_Jskm (g := id) (fun _ => Nat.le_refl _)) (pg_Jnout T) (pg_dnout T))
theorem pg_Jcoil (T : pg_T) : pg_J T (pg_coil T) := pg_Jnode (by decide) (pg_Jseq (pg_Jskm (g := pg_stp) (fun _ => pg_istp)) (pg_Jseq (pg_Jname T) (pg_Jexp T 53) (pg_dexpt T (by decide))) (pg_dseq (pg_dname T) (pg_dexpt T (by decide))))
theorem pg_Jcell (T : pg_T) : pg_J T (pg_cell T) := pg_Jite (pg_Jleaf (by decide) (pg_Jstp T)) (pg_Jite (pg_Jleaf (by decide) (pg_Jstp T)) (pg_Jite (pg_Jcoil T) (pg_Jcont T)))
theorem pg_Jcells (T : pg_T) : ∀ n, pg_J T (pg_cells T n)
  | 0 => pg_Jnil T
  | n + 1 => pg_Jseq (pg_Jcell T) (pg_Jite (pg_Jseq (pg_Jleaf (by decide) (pg_Jstp T)) (pg_Jcells T n) (pg_dcells T n)) (pg_Jite (pg_Jcells T n) (pg_Jnil T))) (pg_dite (pg_gis T (by decide)) (pg_dite (pg_gany T (by decide)) (pg_dnil T)))
theorem pg_Jrow (T : pg_T) : pg_J T (pg_row T) := pg_Jnode (by decide) (pg_Jseq (pg_Jcells T pg_M) (pg_Jexp T 57) (pg_dexpt T (by decide)))
theorem pg_Jrung (T : pg_T) : pg_J T (pg_rung T) := by
  have hg : pg_G T (pg_isc T) := pg_gany T (by decide)
  have d1 : pg_D T (pg_tok (pg_exp T 40)) := pg_dexpt T (by decide)
  have d2 := pg_dseq (pg_dwhl (a := pg_row T) hg pg_M) d1
  have l2 := pg_Jseq (pg_Jwhl hg (pg_Jrow T) pg_M) (pg_Jexp T 40) d1
  exact pg_Jnode (by decide) (pg_Jseq (pg_Jstp T) (pg_Jseq (pg_Jrow T) l2 d2) (pg_dseq (pg_drow T) d2))
theorem pg_Jladd (T : pg_T) : pg_J T (pg_ladd T) := by
  have hg : pg_G T (pg_is T 39) := pg_gis T (by decide)
  have d1 : pg_D T (pg_tok (pg_exp T 38)) := pg_dexpt T (by decide)
  exact pg_Jnode (by decide) (pg_Jseq (pg_Jstp T) (pg_Jseq (pg_Jwhl hg (pg_Jrung T) pg_M) (pg_Jexp T 38) d1) (pg_dseq (pg_dwhl (a := pg_rung T) hg pg_M) d1))
/-- inside a block: what stands behind its name -/
def pg_in (T : pg_T) (c : pg_C) : pg_P := pg_seq (if pg_is T 0 c = true then pg_seq (pg_tok (pg_exp T 58)) (pg_simple T) else pg_nil) (pg_seq (pg_whl (pg_any T [6, 7, 8]) (pg_sect T) pg_M) (pg_ite (pg_is T 37) (pg_ladd T) (pg_body T (pg_B T 100))))
theorem pg_din (T : pg_T) (c : pg_C) : pg_D T (pg_in T c) := by
  have dB := pg_dB T 100
  unfold pg_in
  generalize pg_B T 100 = B at *
  have b2 : pg_D T (pg_ite (pg_is T 37) (pg_ladd T) (pg_body T B)) := pg_dite (pg_gis T (by decide)) (pg_dbody dB)
  have hg : pg_G T (pg_any T [6, 7, 8]) := pg_gany T (by decide)
  have d3 := pg_dseq (pg_dwhl (a := pg_sect T) hg pg_M) b2
  have a4 : pg_D T (if pg_is T 0 c = true then pg_seq (pg_tok (pg_exp T 58)) (pg_simple T) else pg_nil) := by
    by_cases h : pg_is T 0 c = true
    · rw [if_pos h]; exact pg_dseq (pg_dexpt T (by decide)) (pg_dsimple T)
    · rw [if_neg h]; exact pg_dnil T
  exact pg_dseq a4 d3
theorem pg_Jin (T : pg_T) (c : pg_C) : pg_J T (pg_in T c) := by
  have hB := pg_JB T 100
  have dB := pg_dB T 100
  unfold pg_in
  generalize pg_B T 100 = B at *
  have a2 : pg_J T (pg_ite (pg_is T 37) (pg_ladd T) (pg_body T B)) := pg_Jite (pg_Jladd T) (pg_Jbody hB)
  have b2 : pg_D T (pg_ite (pg_is T 37) (pg_ladd T) (pg_body T B)) := pg_dite (pg_gis T (by decide)) (pg_dbody dB)
  have hg : pg_G T (pg_any T [6, 7, 8]) := pg_gany T (by decide)
  have d3 := pg_dseq (pg_dwhl (a := pg_sect T) hg pg_M) b2
  have l3 := pg_Jseq (pg_Jwhl hg (pg_Jsect T) pg_M) a2 b2
  have a4 : pg_J T (if pg_is T 0 c = true then pg_seq (pg_tok (pg_exp T 58)) (pg_simple T) else pg_nil) := by
    by_cases h : pg_is T 0 c = true
    · rw [if_pos h]; exact pg_Jseq (pg_Jexp T 58) (pg_Jsimple T) (pg_dsimple T)
    · rw [if_neg h]; exact pg_Jnil T
  exact pg_Jseq a4 l3 d3
theorem pg_Lin (T : pg_T) (c : pg_C) : pg_L T 1 (pg_in T c) := by
  have hB := pg_LB T 100
  have dB := pg_dB T 100
  unfold pg_in
  generalize pg_B T 100 = B at *
  have a2 : pg_L T 1 (pg_ite (pg_is T 37) (pg_ladd T) (pg_body T B)) := pg_Lite (pg_Lw (pg_Lladd T) (by omega)) (pg_Lbody hB)
  have b2 : pg_D T (pg_ite (pg_is T 37) (pg_ladd T) (pg_body T B)) := pg_dite (pg_gis T (by decide)) (pg_dbody dB)
  have hg : pg_G T (pg_any T [6, 7, 8]) := pg_gany T (by decide)
  have d3 := pg_dseq (pg_dwhl (a := pg_sect T) hg pg_M) b2
  have l3 := pg_Lseq (pg_Lwhl hg (pg_Lsect T) pg_M) a2 b2
  have a4 : pg_L T 0 (if pg_is T 0 c = true then pg_seq (pg_tok (pg_exp T 58)) (pg_simple T) else pg_nil) := by
    by_cases h : pg_is T 0 c = true
    · rw [if_pos h]; exact pg_Lw (pg_Lseq (pg_Lexp T (k := 58) (by decide)) (pg_Lsimple T) (pg_dsimple T)) (by omega)
    · rw [if_neg h]; exact pg_Lnil T
  exact pg_Lw (pg_Lseq a4 l3 d3) (by omega)
/-- a block, part by part -/
theorem pg_blk {T : pg_T} {c : pg_C} (hc : pg_any T [0, 2, 4] c = true) (z : pg_live T (pg_block T c).1) : ∃ c2, c2 = (pg_in T c (pg_exp T 41 (pg_stp c))).1 ∧ pg_live T c ∧ pg_live T (pg_exp T 41 (pg_stp c)) ∧ pg_live T c2 ∧ (pg_stp c).1 = c.1 + 1 ∧ T.1 (c.1 + 1) = 41 ∧ (pg_exp T 41 (pg_stp c)).1 = c.1 + 2 ∧ c.1 + 2 ≤ c2.1 ∧ T.1 c2.1 = pg_k T c + 1 ∧ (pg_block T c).1.1 = c2.1 + 1 ∧ (pg_block T c).2 = (pg_k T c / 2 + 1, pg_pl T c, pg_v T (pg_stp c), (pg_in T c (pg_exp T 41 (pg_stp c))).2.length + 1) :: (pg_in T c (pg_exp T 41 (pg_stp c))).2 ∧ (T.1 c.1 = 0 ∨ T.1 c.1 = 2 ∨ T.1 c.1 = 4) ∧ pg_k T c = T.1 c.1 := by
  have hw : pg_k T c = 0 ∨ pg_k T c = 2 ∨ pg_k T c = 4 := by
    unfold pg_any at hc
    simpa using hc
  have hk : pg_k T c + 1 ≠ 46 ∧ pg_k T c + 1 ≠ 45 := by omega
  have e1 : (pg_block T c).1 = pg_exp T (pg_k T c + 1) (pg_in T c (pg_exp T 41 (pg_stp c))).1 := by
    unfold pg_block pg_in
    generalize pg_B T 100 = B
    generalize pg_M = K
    rfl
  have e2 : (pg_block T c).2 = (pg_k T c / 2 + 1, pg_pl T c, pg_v T (pg_stp c), ((pg_in T c (pg_exp T 41 (pg_stp c))).2).length + 1) :: (pg_in T c (pg_exp T 41 (pg_stp c))).2 := by
    unfold pg_block pg_in
    generalize pg_B T 100 = B
    generalize pg_M = K
    simp only [pg_node, pg_seq, pg_tok, List.append_nil, List.nil_append]
  rw [e1] at z
  obtain ⟨z1, z2, z3⟩ := pg_exl hk z
  have z4 := pg_bk (pg_din T c) z1
  obtain ⟨z5, z6, z7⟩ := pg_exl (k := 41) (by decide) z4
  have s1 := pg_stp1 z5
  have lin := pg_Lin T c _ z1
  have e7 : (pg_exp T 41 (pg_stp c)).1 = c.1 + 2 := by rw [z7]; show (pg_stp c).1 + 1 = _; omega
  have lc0 : c.2.1 = 0 := by
    by_cases w : c.2.1 = 0
    · exact w
    · exfalso
      have : pg_k T c = 46 := if_neg w
      omega
  have kT : pg_k T c = T.1 c.1 := if_pos lc0
  rw [e7] at lin
  have z3' : (pg_exp T (pg_k T c + 1) (pg_in T c (pg_exp T 41 (pg_stp c))).1).1 = (pg_in T c (pg_exp T 41 (pg_stp c))).1.1 + 1 := by rw [z3]
  rw [s1] at z6
  refine ⟨_, rfl, ⟨lc0, by omega⟩, z4, z1, s1, z6, e7, ?_, z2, by rw [e1]; exact z3', e2, by omega, kT⟩
  have hl : 0 ≤ ((pg_in T c (pg_exp T 41 (pg_stp c))).2.length : Int) := Int.natCast_nonneg _
  omega
theorem pg_Jblock {T : pg_T} (c : pg_C) (hc : pg_any T [0, 2, 4] c = true) (z : pg_live T (pg_block T c).1) : cvl (pg_block T c).2 + nmc T c.1 ≤ nmc T (pg_block T c).1.1 := by
  obtain ⟨c2, h1, h2, h3, h4, h5, h6, h7, h8, h9, h10, h11, h12, h13⟩ := pg_blk hc z
  rw [h11, h10]
  rw [h1] at h4 h8 ⊢
  have a1 := pg_Jin T c _ h4
  rw [h7] at a1
  have a2 : nmc T (c.1 + 2) = nmc T (c.1 + 1) + 1 := nmc_1 h6
  have a3 := nmc_m (T := T) (show c.1 ≤ c.1 + 1 by omega)
  have a4 := nmc_m (T := T) (show (pg_in T c (pg_exp T 41 (pg_stp c))).1.1 ≤ (pg_in T c (pg_exp T 41 (pg_stp c))).1.1 + 1 by omega)
  have a5 := cvl_1 (x := (pg_k T c / 2 + 1, pg_pl T c, pg_v T (pg_stp c), (pg_in T c (pg_exp T 41 (pg_stp c))).2.length + 1)) (l := (pg_in T c (pg_exp T 41 (pg_stp c))).2)
  omega
theorem pg_Jwhl2 {T : pg_T} {p : pg_C → Bool} {a : pg_P} (hp : pg_G T p) (ha : ∀ c, p c = true → pg_live T (a c).1 → cvl (a c).2 + nmc T c.1 ≤ nmc T (a c).1.1) : ∀ n, pg_J T (pg_whl p a n)
  | 0 => pg_Jnil T
  | n + 1 => fun c z => by
    have ih := pg_Jwhl2 hp ha n
    unfold pg_whl pg_ite at z ⊢
    cases h : p c with
    | false =>
      rw [h] at z
      show cvl [] + nmc T c.1 ≤ nmc T c.1
      exact Nat.le_of_eq (Nat.zero_add _)
    | true =>
      rw [h] at z
      have z : pg_live T (pg_whl p a n (a c).1).1 := z
      have h1 := ha c h (pg_bk (pg_dwhl hp n) z)
      have h2 := ih _ z
      show cvl ((a c).2 ++ (pg_whl p a n (a c).1).2) + nmc T c.1 ≤ nmc T (pg_whl p a n (a c).1).1.1
      rw [cvl_a]
      omega
theorem pg_Jblocks (T : pg_T) (n : Nat) : pg_J T (pg_whl (pg_any T [0, 2, 4]) (pg_block T) n) := pg_Jwhl2 (pg_gany T (by decide)) pg_Jblock n
