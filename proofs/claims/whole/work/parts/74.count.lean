/-! HOW MANY NODES: at most two for a token, and what δ says -/
def pg_L (T : pg_T) (δ : Int) (a : pg_P) : Prop := ∀ c, pg_live T (a c).1 → ((a c).2.length : Int) + 2 * (c.1 : Int) ≤ 2 * ((a c).1.1 : Int) + δ
theorem pg_Lw {T : pg_T} {δ ε : Int} {a : pg_P} (h : pg_L T δ a) (he : δ ≤ ε) : pg_L T ε a := fun c z => by have := h c z; omega
theorem pg_Lnil (T : pg_T) : pg_L T 0 pg_nil := fun c _ => by show ((0 : Nat) : Int) + _ ≤ _; show _ ≤ 2 * (c.1 : Int) + 0; omega
theorem pg_Lseq {T : pg_T} {δ ε : Int} {a b : pg_P} (ha : pg_L T δ a) (hb : pg_L T ε b) (db : pg_D T b) : pg_L T (δ + ε) (pg_seq a b) := fun c z => by
  have h1 := ha c (pg_bk db z)
  have h2 := hb _ z
  show (((a c).2 ++ (b (a c).1).2).length : Int) + 2 * (c.1 : Int) ≤ 2 * ((b (a c).1).1.1 : Int) + (δ + ε)
  rw [List.length_append]
  omega
theorem pg_Lite {T : pg_T} {δ : Int} {p : pg_C → Bool} {a b : pg_P} (ha : pg_L T δ a) (hb : pg_L T δ b) : pg_L T δ (pg_ite p a b) := fun c z => by
  unfold pg_ite at *
  revert z
  cases p c
  · exact hb c
  · exact ha c
theorem pg_Lnode {T : pg_T} {δ : Int} {k : Nat} {p : pg_C → Nat} {v : pg_C → Int32} {a : pg_P} (ha : pg_L T δ a) : pg_L T (δ + 1) (pg_node k p v a) := fun c z => by
  have := ha c z
  show (((a c).2.length + 1 : Nat) : Int) + 2 * (c.1 : Int) ≤ 2 * ((a c).1.1 : Int) + (δ + 1)
  omega
theorem pg_Lexp (T : pg_T) {k : Nat} (hk : k ≠ 46 ∧ k ≠ 45) : pg_L T (-2) (pg_tok (pg_exp T k)) := fun c z => by
  have h := (pg_exl hk z).2.2
  show ((0 : Nat) : Int) + 2 * (c.1 : Int) ≤ 2 * ((pg_exp T k c).1 : Int) + (-2)
  rw [h]
  show _ ≤ 2 * ((c.1 + 1 : Nat) : Int) + (-2)
  omega
theorem pg_stp1 {T : pg_T} {c : pg_C} (z : pg_live T (pg_stp c)) : (pg_stp c).1 = c.1 + 1 := by
  by_cases h : c.2.1 = 0
  · rw [show pg_stp c = (c.1 + 1, c.2.1, c.2.2) from if_pos h]
  · rw [show pg_stp c = c from if_neg h] at z; exact absurd z.1 h
theorem pg_Lstp (T : pg_T) : pg_L T (-2) (pg_tok pg_stp) := fun c z => by
  have h := pg_stp1 z
  show ((0 : Nat) : Int) + 2 * (c.1 : Int) ≤ 2 * ((pg_stp c).1 : Int) + (-2)
  rw [h]
  omega
theorem pg_Lop {T : pg_T} {g : pg_C → pg_C} (hg : ∀ c, c.1 ≤ (g c).1) : pg_L T (-2) (pg_tok (fun c => pg_opn (g c))) := fun c z => by
  have h := (pg_lopn z).2.2
  have := hg c
  show ((0 : Nat) : Int) + 2 * (c.1 : Int) ≤ 2 * ((pg_opn (g c)).1 : Int) + (-2)
  rw [h]
  show _ ≤ 2 * (((g c).1 + 1 : Nat) : Int) + (-2)
  omega
theorem pg_Li {T : pg_T} {f : pg_C → pg_C} (h : ∀ c, c.1 ≤ (f c).1) : pg_L T 0 (pg_tok f) := fun c _ => by
  have := h c
  show ((0 : Nat) : Int) + 2 * (c.1 : Int) ≤ 2 * ((f c).1 : Int) + 0
  omega
theorem pg_Lstop (T : pg_T) (δ : Int) : pg_L T δ (pg_tok pg_stop) := fun c z => by
  exfalso
  have := z.1
  show False
  have h : (if c.2.1 = 0 then 1 else c.2.1) = 0 := this
  split at h <;> omega
theorem pg_Lleaf {T : pg_T} {δ : Int} {k : Nat} {v : pg_C → Int32} {f : pg_C → pg_C} (h : pg_L T δ (pg_tok f)) : pg_L T (δ + 1) (pg_leaf T k v f) := fun c z => by
  have h1 : ((0 : Nat) : Int) + 2 * (c.1 : Int) ≤ 2 * ((f c).1 : Int) + δ := h c z
  show ((1 : Nat) : Int) + 2 * (c.1 : Int) ≤ 2 * ((f c).1 : Int) + (δ + 1)
  omega
theorem pg_Lwhl {T : pg_T} {p : pg_C → Bool} {a : pg_P} (hp : pg_G T p) (ha : pg_L T 0 a) : ∀ n, pg_L T 0 (pg_whl p a n)
  | 0 => pg_Lnil T
  | n + 1 => pg_Lite (pg_Lseq ha (pg_Lwhl hp ha n) (pg_dwhl hp n)) (pg_Lnil T)
theorem pg_Lsep {T : pg_T} {δ : Int} {a : pg_P} (ha : pg_L T δ a) (da : pg_D T a) (hd : δ ≤ 0) : ∀ n, pg_L T 0 (pg_sep T a n)
  | 0 => pg_Lnil T
  | n + 1 => pg_Lw (pg_Lseq ha (pg_Lite (pg_Lw (pg_Lseq (pg_Lstp T) (pg_Lsep ha da hd n) (pg_dsep da n)) (by omega)) (pg_Lnil T)) (pg_dite (pg_gis T (by decide)) (pg_dnil T))) (by omega)
theorem pg_Lname (T : pg_T) : pg_L T (-1) (pg_name T) := pg_Lleaf (pg_Lexp T (by decide))
theorem pg_Lsimple (T : pg_T) : pg_L T (-1) (pg_simple T) := pg_Lite (pg_Lleaf (pg_Lstp T)) (pg_Lstop T _)
theorem pg_Lse {T : pg_T} {k : Nat} (hk : k ≠ 46 ∧ k ≠ 45) : pg_L T (-2) (pg_tok (fun c => pg_exp T k (pg_stp c))) := fun c z => by
  have h := (pg_exl hk z).2.2
  have := pg_istp (c := c)
  show ((0 : Nat) : Int) + 2 * (c.1 : Int) ≤ 2 * ((pg_exp T k (pg_stp c)).1 : Int) + (-2)
  rw [h]
  show _ ≤ 2 * (((pg_stp c).1 + 1 : Nat) : Int) + (-2)
  omega
theorem pg_Lee {T : pg_T} {k j : Nat} (hk : k ≠ 46 ∧ k ≠ 45) : pg_L T (-2) (pg_tok (fun c => pg_exp T k (pg_exp T j c))) := fun c z => by
  have h := (pg_exl hk z).2.2
  have := pg_iexp (T := T) (k := j) (c := c)
  show ((0 : Nat) : Int) + 2 * (c.1 : Int) ≤ 2 * ((pg_exp T k (pg_exp T j c)).1 : Int) + (-2)
  rw [h]
  show _ ≤ 2 * (((pg_exp T j c).1 + 1 : Nat) : Int) + (-2)
  omega
theorem pg_Led {T : pg_T} {k : Nat} (hk : k ≠ 46 ∧ k ≠ 45) : pg_L T (-2) (pg_tok (fun c => pg_exp T k (pg_dec c))) := fun c z => by
  have h := (pg_exl hk z).2.2
  show ((0 : Nat) : Int) + 2 * (c.1 : Int) ≤ 2 * ((pg_exp T k (pg_dec c)).1 : Int) + (-2)
  rw [h]
  show _ ≤ 2 * ((c.1 + 1 : Nat) : Int) + (-2)
  omega
theorem pg_Lde {T : pg_T} {k : Nat} (hk : k ≠ 46 ∧ k ≠ 45) : pg_L T (-2) (pg_tok (fun c => pg_dec (pg_exp T k c))) := fun c z => by
  have z : pg_live T (pg_exp T k c) := z
  have h := (pg_exl hk z).2.2
  show ((0 : Nat) : Int) + 2 * (c.1 : Int) ≤ 2 * ((pg_exp T k c).1 : Int) + (-2)
  rw [h]
  show _ ≤ 2 * ((c.1 + 1 : Nat) : Int) + (-2)
  omega
theorem pg_Lconst (T : pg_T) : pg_L T (-1) (pg_const T) := pg_Lite (pg_Lleaf (pg_Lstp T)) (pg_Lite (pg_Lleaf (pg_Lse (by decide))) (pg_Lleaf (pg_Lexp T (by decide))))
theorem pg_Lnout (T : pg_T) : pg_L T (-1) (pg_nout T) := fun c z => by
  unfold pg_nout pg_ite at *
  revert z
  cases pg_is T 59 (pg_exp T 41 c)
  · intro z
    have h := (pg_exl (by decide) z).2.2
    show ((1 : Nat) : Int) + 2 * (c.1 : Int) ≤ 2 * ((pg_exp T 41 c).1 : Int) + (-1)
    rw [h]
    show _ ≤ 2 * ((c.1 + 1 : Nat) : Int) + (-1)
    omega
  · intro z
    have z : pg_live T (pg_exp T 41 (pg_stp (pg_exp T 41 c))) := z
    have h1 := pg_exl (k := 41) (by decide) z
    have h2 := pg_stp1 h1.1
    have h3 := pg_iexp (T := T) (k := 41) (c := c)
    show ((2 : Nat) : Int) + 2 * (c.1 : Int) ≤ 2 * ((pg_exp T 41 (pg_stp (pg_exp T 41 c))).1 : Int) + (-1)
    rw [h1.2.2]
    show _ ≤ 2 * (((pg_stp (pg_exp T 41 c)).1 + 1 : Nat) : Int) + (-1)
    rw [h2]
    omega
theorem pg_Lelem {T : pg_T} {E : pg_P} (h : pg_L T (-1) E) (d : pg_D T E) : pg_L T (-1) (pg_elem T E) := pg_Lw (pg_Lnode (pg_Lseq (pg_Lop (g := pg_stp) (fun _ => pg_istp)) (pg_Lseq h (pg_Led (k := 55) (by decide)) (pg_dtok (pg_fcomp (pg_fexp T (by decide)) (pg_fdec T)))) (pg_dseq d (pg_dtok (pg_fcomp (pg_fexp T (by decide)) (pg_fdec T)))))) (by omega)
theorem pg_Lcall {T : pg_T} {E : pg_P} (h : pg_L T (-1) E) (d : pg_D T E) : pg_L T (-1) (pg_call T E) := by
  have d1 : pg_D T (pg_tok (fun c => pg_exp T 53 (pg_dec c))) := pg_dtok (pg_fcomp (pg_fexp T (by decide)) (pg_fdec T))
  have h1 : pg_L T 0 (pg_ite (pg_is T 53) pg_nil (pg_sep T E pg_M)) := pg_Lite (pg_Lnil T) (pg_Lsep h d (by omega) pg_M)
  have h2 : pg_D T (pg_ite (pg_is T 53) pg_nil (pg_sep T E pg_M)) := pg_dite2 (pg_dnil T) (pg_dsep d pg_M)
  exact pg_Lw (pg_Lnode (pg_Lseq (pg_Lop (g := pg_stp) (fun _ => pg_istp)) (pg_Lseq h1 (pg_Led (k := 53) (by decide)) d1) (pg_dseq h2 d1))) (by omega)
theorem pg_Loper {T : pg_T} {X : Nat → pg_P} (h : ∀ m, pg_L T (-1) (X m)) (d : ∀ m, pg_D T (X m)) : pg_L T (-1) (pg_oper T X) := by
  have d1 : pg_D T (pg_tok (fun c => pg_exp T 53 (pg_dec c))) := pg_dtok (pg_fcomp (pg_fexp T (by decide)) (pg_fdec T))
  have d2 : pg_D T (pg_tok pg_dec) := pg_dtok (pg_fdec T)
  have l2 : pg_L T 0 (pg_tok pg_dec) := pg_Li (fun _ => Nat.le_refl _)
  refine pg_Lite ?_ (pg_Lite (pg_Lconst T) (pg_Lite ?_ (pg_Lite (pg_Lite (pg_Lelem (h 2) (d 2)) (pg_Lite (pg_Lcall (h 2) (d 2)) (pg_Lnout T))) (pg_Lstop T _))))
  · exact pg_Lw (pg_Lnode (pg_Lseq (pg_Lop (g := id) (fun _ => Nat.le_refl _)) (pg_Lseq (h 0) l2 d2) (pg_dseq (d 0) d2))) (by omega)
  · exact pg_Lw (pg_Lseq (pg_Lop (g := id) (fun _ => Nat.le_refl _)) (pg_Lseq (h 2) (pg_Led (k := 53) (by decide)) d1) (pg_dseq (d 2) d1)) (by omega)
theorem pg_Lmore {T : pg_T} {X : Nat → pg_P} (h : ∀ m, pg_L T (-1) (X m)) (d : ∀ m, pg_D T (X m)) (m : Nat) : ∀ (n : Nat) (c : pg_C) (s : List pg_N), pg_live T (pg_more T X m n c s).1 → ((pg_more T X m n c s).2.length : Int) + 2 * (c.1 : Int) ≤ 2 * ((pg_more T X m n c s).1.1 : Int) + (s.length : Int)
  | 0, c, s, _ => by show (s.length : Int) + 2 * (c.1 : Int) ≤ 2 * (c.1 : Int) + _; omega
  | n + 1, c, s, z => by
    unfold pg_more at z ⊢
    revert z
    cases hs : pg_sign (pg_k T c) with
    | none => intro _; show (s.length : Int) + 2 * (c.1 : Int) ≤ 2 * (c.1 : Int) + _; omega
    | some g =>
      show pg_live T (if m ≤ pg_bind g + 2 then _ else _ : pg_C × List pg_N).1 → ((if m ≤ pg_bind g + 2 then _ else _ : pg_C × List pg_N).2.length : Int) + 2 * (c.1 : Int) ≤ 2 * ((if m ≤ pg_bind g + 2 then _ else _ : pg_C × List pg_N).1.1 : Int) + (s.length : Int)
      by_cases w : m ≤ pg_bind g + 2
      · rw [if_pos w]
        intro z
        have h1 := pg_Lmore h d m n _ _ z
        have h2 := pg_bkmore z
        have h3 := h _ _ h2
        have h4 := (pg_lopn (pg_bk (d _) h2)).2.2
        have h5 : (pg_opn c).1 = c.1 + 1 := by rw [h4]
        have hl : ((35, pg_pl T c, nI g, (s ++ (X (pg_bind g + 3) (pg_opn c)).2).length + 1) :: (s ++ (X (pg_bind g + 3) (pg_opn c)).2)).length = s.length + (X (pg_bind g + 3) (pg_opn c)).2.length + 1 := by rw [List.length_cons, List.length_append]
        rw [hl] at h1
        omega
      · rw [if_neg w]
        intro _; show (s.length : Int) + 2 * (c.1 : Int) ≤ 2 * (c.1 : Int) + _; omega
theorem pg_LX (T : pg_T) : ∀ f m, pg_L T (-1) (pg_X T f m)
  | 0, _ => pg_Lstop T _
  | f + 1, m => fun c z => by
    unfold pg_X at z ⊢
    by_cases q : m = 0
    · rw [if_pos q] at z ⊢
      exact pg_Loper (pg_LX T f) (pg_dX T f) c z
    · rw [if_neg q] at z ⊢
      have hz : pg_live T (pg_more T (pg_X T f) m pg_M (pg_X T f 0 c).1 (pg_X T f 0 c).2).1 := by
        unfold pg_expr pg_rst at z
        by_cases w : m = 1
        · rw [if_pos w] at z; exact z
        · rw [if_neg w] at z; exact z
      have h1 := pg_Lmore (pg_LX T f) (pg_dX T f) m pg_M _ _ hz
      have h2 := pg_LX T f 0 c (pg_bkmore hz)
      have h3 : (pg_expr T (pg_X T f) m c).1.1 = (pg_more T (pg_X T f) m pg_M (pg_X T f 0 c).1 (pg_X T f 0 c).2).1.1 := by
        unfold pg_expr pg_rst
        by_cases w : m = 1
        · rw [if_pos w]
        · rw [if_neg w]
      have h4 : (pg_expr T (pg_X T f) m c).2 = (pg_more T (pg_X T f) m pg_M (pg_X T f 0 c).1 (pg_X T f 0 c).2).2 := rfl
      rw [h3, h4]
      omega
theorem pg_LE (T : pg_T) : pg_L T (-1) (pg_E T) := pg_LX T 200 1

theorem pg_Larray (T : pg_T) : pg_L T (-1) (pg_array T) := by
  have d1 : pg_D T (pg_seq (pg_tok (fun c => pg_exp T 15 (pg_exp T 55 c))) (pg_simple T)) := pg_dseq (pg_dtok (pg_fcomp (pg_fexp T (by decide)) (pg_fexp T (by decide)))) (pg_dsimple T)
  have l1 := pg_Lseq (pg_Lee (T := T) (k := 15) (j := 55) (by decide)) (pg_Lsimple T) (pg_dsimple T)
  have d2 := pg_dseq (pg_dconst T) d1
  have l2 := pg_Lseq (pg_Lconst T) l1 d1
  have d3 := pg_dseq (pg_dtok (pg_fexp T (k := 48) (by decide))) d2
  have l3 := pg_Lseq (pg_Lexp T (k := 48) (by decide)) l2 d2
  have d4 := pg_dseq (pg_dconst T) d3
  have l4 := pg_Lseq (pg_Lconst T) l3 d3
  exact pg_Lw (pg_Lnode (pg_Lseq (pg_Lse (k := 54) (by decide)) l4 d4)) (by omega)
theorem pg_Ldecl (T : pg_T) : pg_L T 0 (pg_decl T) := by
  have d1 : pg_D T (pg_tok (pg_exp T 57)) := pg_dtok (pg_fexp T (by decide))
  have a2 : pg_L T 0 (pg_ite (pg_is T 47) (pg_seq (pg_tok pg_stp) (pg_const T)) pg_nil) := pg_Lite (pg_Lw (pg_Lseq (pg_Lstp T) (pg_Lconst T) (pg_dconst T)) (by omega)) (pg_Lnil T)
  have b2 : pg_D T (pg_ite (pg_is T 47) (pg_seq (pg_tok pg_stp) (pg_const T)) pg_nil) := pg_dite (pg_gis T (by decide)) (pg_dnil T)
  have d2 := pg_dseq b2 d1
  have l2 := pg_Lseq a2 (pg_Lexp T (k := 57) (by decide)) d1
  have a3 : pg_L T (-1) (pg_ite (pg_is T 14) (pg_array T) (pg_ite (pg_is T 41) (pg_leaf T 10 (pg_v T) pg_stp) (pg_simple T))) := pg_Lite (pg_Larray T) (pg_Lite (pg_Lleaf (pg_Lstp T)) (pg_Lsimple T))
  have b3 : pg_D T (pg_ite (pg_is T 14) (pg_array T) (pg_ite (pg_is T 41) (pg_leaf T 10 (pg_v T) pg_stp) (pg_simple T))) := pg_dite (pg_gis T (by decide)) (pg_dite (pg_gis T (by decide)) (pg_dsimple T))
  have d3 := pg_dseq b3 d2
  have l3 := pg_Lseq a3 l2 d2
  have d4 := pg_dseq (pg_dtok (pg_fexp T (k := 58) (by decide))) d3
  have l4 := pg_Lseq (pg_Lexp T (k := 58) (by decide)) l3 d3
  have a5 : pg_L T 0 (pg_ite (pg_is T 10) (pg_seq (pg_tok pg_stp) (pg_leaf T 7 (pg_v T) (pg_exp T 43))) pg_nil) := pg_Lite (pg_Lw (pg_Lseq (pg_Lstp T) (pg_Lleaf (pg_Lexp T (k := 43) (by decide))) (pg_dleaf (pg_fexp T (by decide)))) (by omega)) (pg_Lnil T)
  have b5 : pg_D T (pg_ite (pg_is T 10) (pg_seq (pg_tok pg_stp) (pg_leaf T 7 (pg_v T) (pg_exp T 43))) pg_nil) := pg_dite (pg_gis T (by decide)) (pg_dnil T)
  have d5 := pg_dseq b5 d4
  have l5 := pg_Lseq a5 l4 d4
  have hw : pg_L T 0 (pg_whl (pg_is T 56) (pg_seq (pg_tok pg_stp) (pg_name T)) pg_M) := pg_Lwhl (pg_gis T (by decide)) (pg_Lw (pg_Lseq (pg_Lstp T) (pg_Lname T) (pg_dname T)) (by omega)) pg_M
  have d6 := pg_dseq (pg_dwhl (a := pg_seq (pg_tok pg_stp) (pg_name T)) (pg_gis T (k := 56) (by decide)) pg_M) d5
  have l6 := pg_Lseq hw l5 d5
  exact pg_Lw (pg_Lnode (pg_Lseq (pg_Lname T) l6 d6)) (by omega)
theorem pg_Lsect (T : pg_T) : pg_L T 0 (pg_sect T) := by
  have d1 : pg_D T (pg_tok (pg_exp T 9)) := pg_dtok (pg_fexp T (by decide))
  have hg : pg_G T (pg_is T 41) := pg_gis T (by decide)
  have l2 := pg_Lseq (pg_Lwhl hg (pg_Ldecl T) pg_M) (pg_Lexp T (k := 9) (by decide)) d1
  have d2 := pg_dseq (pg_dwhl (a := pg_decl T) hg pg_M) d1
  exact pg_Lw (pg_Lnode (pg_Lseq (pg_Lstp T) l2 d2)) (by omega)
theorem pg_Lbody {T : pg_T} {B : pg_P} (h : pg_L T 0 B) : pg_L T 1 (pg_body T B) := pg_Lw (pg_Lnode h) (by omega)

theorem pg_Lcond {T : pg_T} {B : pg_P} (h : pg_L T 0 B) (d : pg_D T B) : pg_L T (-2) (pg_cond T B) := by
  have d1 := pg_dseq (pg_dexpt T (k := 17) (by decide)) (pg_dbody (T := T) d)
  exact pg_Lw (pg_Lseq (pg_LE T) (pg_Lseq (pg_Lexp T (k := 17) (by decide)) (pg_Lbody h) (pg_dbody d)) d1) (by omega)
theorem pg_Lelse {T : pg_T} {B : pg_P} (h : pg_L T 0 B) (d : pg_D T B) : pg_L T 0 (pg_else T B) := pg_Lite (pg_Lw (pg_Lseq (pg_Lstp T) (pg_Lbody h) (pg_dbody d)) (by omega)) (pg_Lnil T)
theorem pg_Lif {T : pg_T} {B : pg_P} (h : pg_L T 0 B) (d : pg_D T B) : pg_L T 0 (pg_if T B) := by
  have d1 : pg_D T (pg_seq (pg_else T B) (pg_tok (fun c => pg_dec (pg_exp T 20 c)))) := pg_dseq pg_delse (pg_fdx T (by decide))
  have l1 := pg_Lseq (pg_Lelse h d) (pg_Lde (T := T) (k := 20) (by decide)) (pg_fdx T (by decide))
  have hg : pg_G T (pg_is T 18) := pg_gis T (by decide)
  have d2 := pg_dseq (pg_dwhl (a := pg_seq (pg_tok pg_stp) (pg_cond T B)) hg pg_M) d1
  have l2 := pg_Lseq (pg_Lwhl hg (pg_Lw (pg_Lseq (pg_Lstp T) (pg_Lcond h d) (pg_dcond d)) (by omega)) pg_M) l1 d1
  exact pg_Lw (pg_Lnode (pg_Lseq (pg_Lop (g := id) (fun _ => Nat.le_refl _)) (pg_Lseq (pg_Lcond h d) l2 d2) (pg_dseq (pg_dcond d) d2))) (by omega)
theorem pg_Lrange (T : pg_T) : pg_L T 0 (pg_range T) := by
  have d1 : pg_D T (pg_ite (pg_is T 48) (pg_seq (pg_tok pg_stp) (pg_const T)) pg_nil) := pg_dite (pg_gis T (by decide)) (pg_dnil T)
  have l1 : pg_L T 0 (pg_ite (pg_is T 48) (pg_seq (pg_tok pg_stp) (pg_const T)) pg_nil) := pg_Lite (pg_Lw (pg_Lseq (pg_Lstp T) (pg_Lconst T) (pg_dconst T)) (by omega)) (pg_Lnil T)
  exact pg_Lw (pg_Lnode (pg_Lseq (pg_Lconst T) l1 d1)) (by omega)
theorem pg_Lchoice {T : pg_T} {B : pg_P} (h : pg_L T 0 B) (d : pg_D T B) : pg_L T 0 (pg_choice T B) := by
  have d1 : pg_D T (pg_seq (pg_tok (pg_exp T 58)) (pg_body T B)) := pg_dseq (pg_dexpt T (by decide)) (pg_dbody d)
  exact pg_Lw (pg_Lnode (pg_Lseq (pg_Lsep (pg_Lrange T) (pg_drange T) (Int.le_refl _) pg_M) (pg_Lseq (pg_Lexp T (k := 58) (by decide)) (pg_Lbody h) (pg_dbody d)) d1)) (by omega)
theorem pg_Lcase {T : pg_T} {B : pg_P} (h : pg_L T 0 B) (d : pg_D T B) : pg_L T 0 (pg_case T B) := by
  have d1 : pg_D T (pg_seq (pg_else T B) (pg_tok (fun c => pg_dec (pg_exp T 22 c)))) := pg_dseq pg_delse (pg_fdx T (by decide))
  have l1 := pg_Lseq (pg_Lelse h d) (pg_Lde (T := T) (k := 22) (by decide)) (pg_fdx T (by decide))
  have hg : pg_G T (pg_any T [42, 61, 35, 36]) := pg_gany T (by decide)
  have d2 := pg_dseq (pg_dwhl (a := pg_choice T B) hg pg_M) d1
  have l2 := pg_Lseq (pg_Lwhl hg (pg_Lchoice h d) pg_M) l1 d1
  have d3 := pg_dseq (pg_dexpt T (k := 15) (by decide)) d2
  have l3 := pg_Lseq (pg_Lexp T (k := 15) (by decide)) l2 d2
  exact pg_Lw (pg_Lnode (pg_Lseq (pg_Lop (g := id) (fun _ => Nat.le_refl _)) (pg_Lseq (pg_LE T) l3 d3) (pg_dseq (pg_dE T) d3))) (by omega)
theorem pg_Lfor {T : pg_T} {B : pg_P} (h : pg_L T 0 B) (d : pg_D T B) : pg_L T 0 (pg_for T B) := by
  have d1 : pg_D T (pg_tok (fun c => pg_dec (pg_exp T 27 c))) := pg_fdx T (by decide)
  have d2 := pg_dseq (pg_dbody (T := T) d) d1
  have l2 := pg_Lseq (pg_Lbody h) (pg_Lde (T := T) (k := 27) (by decide)) d1
  have d3 := pg_dseq (pg_dexpt T (k := 26) (by decide)) d2
  have l3 := pg_Lseq (pg_Lexp T (k := 26) (by decide)) l2 d2
  have lb : pg_L T 0 (pg_ite (pg_is T 25) (pg_seq (pg_tok pg_stp) (pg_const T)) pg_nil) := pg_Lite (pg_Lw (pg_Lseq (pg_Lstp T) (pg_Lconst T) (pg_dconst T)) (by omega)) (pg_Lnil T)
  have d4 := pg_dseq (pg_oby T).2 d3
  have l4 := pg_Lseq lb l3 d3
  have d5 := pg_dseq (pg_dconst T) d4
  have l5 := pg_Lseq (pg_Lconst T) l4 d4
  have d6 := pg_dseq (pg_dexpt T (k := 24) (by decide)) d5
  have l6 := pg_Lseq (pg_Lexp T (k := 24) (by decide)) l5 d5
  have d7 := pg_dseq (pg_dconst T) d6
  have l7 := pg_Lseq (pg_Lconst T) l6 d6
  have l8 : pg_L T (-2) (pg_tok (fun c => pg_exp T 47 (pg_exp T 41 (pg_opn c)))) := fun c z => by
    have h1 := (pg_exl (by decide) z).2.2
    have h2 := pg_iexp (T := T) (k := 41) (c := pg_opn c)
    have h3 := pg_iopn (c := c)
    show ((0 : Nat) : Int) + 2 * (c.1 : Int) ≤ 2 * ((pg_exp T 47 (pg_exp T 41 (pg_opn c))).1 : Int) + (-2)
    rw [h1]
    show _ ≤ 2 * (((pg_exp T 41 (pg_opn c)).1 + 1 : Nat) : Int) + (-2)
    omega
  exact pg_Lw (pg_Lnode (pg_Lseq l8 l7 d7)) (by omega)
theorem pg_Ltarg (T : pg_T) : pg_L T (-1) (pg_targ T) := pg_Lite (pg_Lelem (pg_LE T) (pg_dE T)) (pg_Lname T)
theorem pg_Lasg (T : pg_T) : pg_L T 0 (pg_asg T) := fun c z => by
  have h1 := pg_LE T _ z
  have z2 := pg_bk (pg_dE T) z
  have h2 := (pg_exl (k := 47) (by decide) z2)
  have h3 := pg_Ltarg T c h2.1
  have h4 : (pg_exp T 47 (pg_targ T c).1).1 = (pg_targ T c).1.1 + 1 := by rw [h2.2.2]
  show ((((pg_targ T c).2 ++ (pg_E T (pg_exp T 47 (pg_targ T c).1)).2).length + 1 : Nat) : Int) + 2 * (c.1 : Int) ≤ 2 * ((pg_E T (pg_exp T 47 (pg_targ T c).1)).1.1 : Int) + 0
  rw [List.length_append]
  omega
theorem pg_Lpar (T : pg_T) : pg_L T 0 (pg_par T) := pg_Lw (pg_Lnode (pg_Lseq (pg_Lee (k := 47) (j := 41) (by decide)) (pg_LE T) (pg_dE T))) (by omega)
theorem pg_Linv (T : pg_T) : pg_L T 0 (pg_inv T) := by
  have h1 : pg_L T 0 (pg_ite (pg_is T 53) pg_nil (pg_sep T (pg_par T) pg_M)) := pg_Lite (pg_Lnil T) (pg_Lsep (pg_Lpar T) (pg_dpar T) (Int.le_refl _) pg_M)
  have d1 : pg_D T (pg_ite (pg_is T 53) pg_nil (pg_sep T (pg_par T) pg_M)) := pg_dite2 (pg_dnil T) (pg_dsep (pg_dpar T) pg_M)
  exact pg_Lw (pg_Lnode (pg_Lseq (pg_Lop (g := pg_stp) (fun _ => pg_istp)) (pg_Lseq h1 (pg_Led (T := T) (k := 53) (by decide)) (pg_fxd T (by decide))) (pg_dseq d1 (pg_fxd T (by decide))))) (by omega)
theorem pg_Lstmt {T : pg_T} {B : pg_P} (h : pg_L T 0 B) (d : pg_D T B) : pg_L T 0 (pg_stmt T B) := pg_Lw (pg_Lseq (pg_Lite (pg_Lnil T) (pg_Lite (pg_Lite (pg_Linv T) (pg_Lasg T)) (pg_Lite (pg_Lif h d) (pg_Lite (pg_Lcase h d) (pg_Lite (pg_Lfor h d) (pg_Lite (pg_Lw (pg_Lleaf (pg_Lstp T)) (by omega)) (pg_Lw (pg_Lleaf (pg_Lstp T)) (by omega)))))))) (pg_Lexp T (k := 57) (by decide)) (pg_dexpt T (by decide))) (by omega)
theorem pg_LB (T : pg_T) : ∀ f, pg_L T 0 (pg_B T f)
  | 0 => pg_Lnil T
  | f + 1 => pg_Lwhl (pg_gany T (by decide)) (pg_Lstmt (pg_LB T f) (pg_dB T f)) pg_M
theorem pg_Lskm {T : pg_T} {x y z : Nat} {g : pg_C → pg_C} (hg : ∀ c, c.1 ≤ (g c).1) : pg_L T 0 (pg_tok (fun c => pg_skm T x y z (g c))) := pg_Li (fun c => by
  unfold pg_skm
  split
  · exact hg c
  · exact Nat.le_trans (hg c) pg_istp)
theorem pg_Lcont (T : pg_T) : pg_L T 0 (pg_cont T) := pg_Lw (pg_Lnode (pg_Lseq (pg_Lskm (g := id) (fun _ => Nat.le_refl _)) (pg_Lnout T) (pg_dnout T))) (by omega)
theorem pg_Lcoil (T : pg_T) : pg_L T 0 (pg_coil T) := pg_Lw (pg_Lnode (pg_Lseq (pg_Lskm (g := pg_stp) (fun _ => pg_istp)) (pg_Lseq (pg_Lname T) (pg_Lexp T (k := 53) (by decide)) (pg_dexpt T (by decide))) (pg_dseq (pg_dname T) (pg_dexpt T (by decide))))) (by omega)
theorem pg_Lcell (T : pg_T) : pg_L T 0 (pg_cell T) := pg_Lite (pg_Lw (pg_Lleaf (pg_Lstp T)) (by omega)) (pg_Lite (pg_Lw (pg_Lleaf (pg_Lstp T)) (by omega)) (pg_Lite (pg_Lcoil T) (pg_Lcont T)))
theorem pg_fskm {T : pg_T} {x y z : Nat} (h : (x ≠ 46 ∧ x ≠ 45) ∧ (y ≠ 46 ∧ y ≠ 45) ∧ (z ≠ 46 ∧ z ≠ 45)) : pg_F T (pg_skm T x y z) := fun c hc => by
  have : pg_mark T x y z c = 0 := by
    unfold pg_mark
    rw [pg_gis T h.1 c hc, pg_gis T h.2.1 c hc, pg_gis T h.2.2 c hc]
    rfl
  unfold pg_skm
  rw [if_pos this]
  exact pg_deq_r c
theorem pg_dcont (T : pg_T) : pg_D T (pg_cont T) := pg_dnode (pg_dseq (pg_dtok (pg_fskm (by decide))) (pg_dnout T))
theorem pg_dcell (T : pg_T) : pg_D T (pg_cell T) := pg_dite (pg_gis T (by decide)) (pg_dite (pg_gis T (by decide)) (pg_dite (pg_gis T (by decide)) (pg_dcont T)))
theorem pg_dcells (T : pg_T) : ∀ n, pg_D T (pg_cells T n)
  | 0 => pg_dnil T
  | _ + 1 => pg_dseq (pg_dcell T) (pg_dite (pg_gis T (by decide)) (pg_dite (pg_gany T (by decide)) (pg_dnil T)))
theorem pg_Lcells (T : pg_T) : ∀ n, pg_L T 0 (pg_cells T n)
  | 0 => pg_Lnil T
  | n + 1 => pg_Lw (pg_Lseq (pg_Lcell T) (pg_Lite (pg_Lw (pg_Lseq (pg_Lleaf (pg_Lstp T)) (pg_Lcells T n) (pg_dcells T n)) (by omega)) (pg_Lite (pg_Lcells T n) (pg_Lnil T))) (pg_dite (pg_gis T (by decide)) (pg_dite (pg_gany T (by decide)) (pg_dnil T)))) (by omega)
theorem pg_drow (T : pg_T) : pg_D T (pg_row T) := pg_dnode (pg_dseq (pg_dcells T pg_M) (pg_dexpt T (by decide)))
theorem pg_Lrow (T : pg_T) : pg_L T 0 (pg_row T) := pg_Lw (pg_Lnode (pg_Lseq (pg_Lcells T pg_M) (pg_Lexp T (k := 57) (by decide)) (pg_dexpt T (by decide)))) (by omega)
theorem pg_Lrung (T : pg_T) : pg_L T 0 (pg_rung T) := by
  have hg : pg_G T (pg_isc T) := pg_gany T (by decide)
  have d1 : pg_D T (pg_tok (pg_exp T 40)) := pg_dexpt T (by decide)
  have d2 := pg_dseq (pg_dwhl (a := pg_row T) hg pg_M) d1
  have l2 := pg_Lseq (pg_Lwhl hg (pg_Lrow T) pg_M) (pg_Lexp T (k := 40) (by decide)) d1
  exact pg_Lw (pg_Lnode (pg_Lseq (pg_Lstp T) (pg_Lseq (pg_Lrow T) l2 d2) (pg_dseq (pg_drow T) d2))) (by omega)
theorem pg_Lladd (T : pg_T) : pg_L T 0 (pg_ladd T) := by
  have hg : pg_G T (pg_is T 39) := pg_gis T (by decide)
  have d1 : pg_D T (pg_tok (pg_exp T 38)) := pg_dexpt T (by decide)
  exact pg_Lw (pg_Lnode (pg_Lseq (pg_Lstp T) (pg_Lseq (pg_Lwhl hg (pg_Lrung T) pg_M) (pg_Lexp T (k := 38) (by decide)) d1) (pg_dseq (pg_dwhl (a := pg_rung T) hg pg_M) d1))) (by omega)
theorem pg_Lwhl2 {T : pg_T} {p : pg_C → Bool} {a : pg_P} (hp : pg_G T p) (ha : ∀ c, p c = true → pg_live T (a c).1 → ((a c).2.length : Int) + 2 * (c.1 : Int) ≤ 2 * ((a c).1.1 : Int)) : ∀ n, pg_L T 0 (pg_whl p a n)
  | 0 => pg_Lnil T
  | n + 1 => fun c z => by
    have ih := pg_Lwhl2 hp ha n
    unfold pg_whl pg_ite at z ⊢
    cases h : p c with
    | false =>
      rw [h] at z
      show ((0 : Nat) : Int) + 2 * (c.1 : Int) ≤ 2 * (c.1 : Int) + 0
      omega
    | true =>
      rw [h] at z
      have z : pg_live T (pg_whl p a n (a c).1).1 := z
      have h1 := ha c h (pg_bk (pg_dwhl hp n) z)
      have h2 := ih _ z
      show (((a c).2 ++ (pg_whl p a n (a c).1).2).length : Int) + 2 * (c.1 : Int) ≤ 2 * ((pg_whl p a n (a c).1).1.1 : Int) + 0
      rw [List.length_append]
      omega
theorem pg_Lblock {T : pg_T} (c : pg_C) (hc : pg_any T [0, 2, 4] c = true) (z : pg_live T (pg_block T c).1) : ((pg_block T c).2.length : Int) + 2 * (c.1 : Int) ≤ 2 * ((pg_block T c).1.1 : Int) := by
  have hw : pg_k T c = 0 ∨ pg_k T c = 2 ∨ pg_k T c = 4 := by
    unfold pg_any at hc
    simpa using hc
  have hk : pg_k T c + 1 ≠ 46 ∧ pg_k T c + 1 ≠ 45 := by omega
  have d1 : pg_D T (pg_tok (pg_exp T (pg_k T c + 1))) := pg_dexpt T hk
  have hB := pg_LB T 100
  have dB := pg_dB T 100
  generalize hBB : pg_B T 100 = B at *
  have a2 : pg_L T 1 (pg_ite (pg_is T 37) (pg_ladd T) (pg_body T B)) := pg_Lite (pg_Lw (pg_Lladd T) (by omega)) (pg_Lbody hB)
  have b2 : pg_D T (pg_ite (pg_is T 37) (pg_ladd T) (pg_body T B)) := pg_dite (pg_gis T (by decide)) (pg_dbody dB)
  have d2 := pg_dseq b2 d1
  have l2 := pg_Lseq a2 (pg_Lexp T hk) d1
  have hg : pg_G T (pg_any T [6, 7, 8]) := pg_gany T (by decide)
  have d3 := pg_dseq (pg_dwhl (a := pg_sect T) hg pg_M) d2
  have l3 := pg_Lseq (pg_Lwhl hg (pg_Lsect T) pg_M) l2 d2
  have a4 : pg_L T 0 (if pg_is T 0 c = true then pg_seq (pg_tok (pg_exp T 58)) (pg_simple T) else pg_nil) ∧ pg_D T (if pg_is T 0 c = true then pg_seq (pg_tok (pg_exp T 58)) (pg_simple T) else pg_nil) := by
    by_cases h : pg_is T 0 c = true
    · rw [if_pos h]; exact ⟨pg_Lw (pg_Lseq (pg_Lexp T (k := 58) (by decide)) (pg_Lsimple T) (pg_dsimple T)) (by omega), pg_dseq (pg_dexpt T (by decide)) (pg_dsimple T)⟩
    · rw [if_neg h]; exact ⟨pg_Lnil T, pg_dnil T⟩
  have d4 := pg_dseq a4.2 d3
  have l4 := pg_Lseq a4.1 l3 d3
  have l5 := pg_Lnode (k := pg_k T c / 2 + 1) (p := pg_pl T) (v := fun c => pg_v T (pg_stp c)) (pg_Lseq (pg_Lse (T := T) (k := 41) (by decide)) l4 d4)
  have eB : pg_block T c = pg_node (pg_k T c / 2 + 1) (pg_pl T) (fun c => pg_v T (pg_stp c)) (pg_seq (pg_tok (fun c => pg_exp T 41 (pg_stp c))) (pg_seq (if pg_is T 0 c = true then pg_seq (pg_tok (pg_exp T 58)) (pg_simple T) else pg_nil) (pg_seq (pg_whl (pg_any T [6, 7, 8]) (pg_sect T) pg_M) (pg_seq (pg_ite (pg_is T 37) (pg_ladd T) (pg_body T B)) (pg_tok (pg_exp T (pg_k T c + 1))))))) c := by
    rw [← hBB]
    rfl
  rw [eB] at z ⊢
  have := l5 c z
  omega
/-- a whole text: at most two nodes for a token, and one -/
theorem pg_Ltext (T : pg_T) : pg_L T 1 (pg_text T) := pg_Lw (pg_Lnode (pg_Lwhl2 (pg_gany T (by decide)) pg_Lblock pg_M)) (by omega)
