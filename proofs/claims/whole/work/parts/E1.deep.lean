/-! TOO DEEP: never at a token that is badly written -/
def pg_Y (T : pg_T) (a : pg_P) : Prop := ∀ c, pg_live T c → (a c).1.2.1 = 2 → T.1 (a c).1.1 ≠ 45
theorem pg_yd {T : pg_T} {b : pg_P} {c : pg_C} (hD : pg_D T b) (hY : pg_Y T b) (g : c.2.1 = 2 → T.1 c.1 ≠ 45) : (b c).1.2.1 = 2 → T.1 (b c).1.1 ≠ 45 := fun e => by
  by_cases w : pg_live T c
  · exact hY c w e
  · have dd : pg_dead T c := by
      unfold pg_live at w
      unfold pg_dead
      omega
    obtain ⟨h1, h2⟩ := hD c dd
    rw [h1]
    exact g (by omega)
theorem pg_Ynil (T : pg_T) : pg_Y T pg_nil := fun c hl _ => hl.2
theorem pg_Yseq {T : pg_T} {a b : pg_P} (ha : pg_Y T a) (hb : pg_Y T b) (db : pg_D T b) : pg_Y T (pg_seq a b) := fun c hl e => pg_yd (b := b) (c := (a c).1) db hb (ha c hl) e
theorem pg_Yite {T : pg_T} {p : pg_C → Bool} {a b : pg_P} (ha : pg_Y T a) (hb : pg_Y T b) : pg_Y T (pg_ite p a b) := fun c hl => by
  unfold pg_ite
  cases p c
  · exact hb c hl
  · exact ha c hl
theorem pg_Yit {T : pg_T} {p : pg_C → Bool} {a b : pg_P} (ha : ∀ c, p c = true → pg_live T c → (a c).1.2.1 = 2 → T.1 (a c).1.1 ≠ 45) (hb : pg_Y T b) : pg_Y T (pg_ite p a b) := fun c hl => by
  unfold pg_ite
  cases h : p c
  · exact hb c hl
  · exact ha c h hl
theorem pg_Ynode {T : pg_T} {k : Nat} {p : pg_C → Nat} {v : pg_C → Int32} {a : pg_P} (ha : pg_Y T a) : pg_Y T (pg_node k p v a) := ha
theorem pg_Ytok {T : pg_T} {f : pg_C → pg_C} (h : ∀ c, c.2.1 ≠ 2 → (f c).2.1 ≠ 2) : pg_Y T (pg_tok f) := fun c hl e => absurd e (h c (by rw [hl.1]; decide))
theorem pg_n2s {c : pg_C} (h : c.2.1 ≠ 2) : (pg_stop c).2.1 ≠ 2 := by
  show (if c.2.1 = 0 then 1 else c.2.1) ≠ 2
  split <;> omega
theorem pg_n2e {T : pg_T} {k : Nat} {c : pg_C} (h : c.2.1 ≠ 2) : (pg_exp T k c).2.1 ≠ 2 := by
  unfold pg_exp
  split
  · exact h
  · exact pg_n2s h
theorem pg_n2p {c : pg_C} (h : c.2.1 ≠ 2) : (pg_stp c).2.1 ≠ 2 := by
  unfold pg_stp
  split <;> exact h
theorem pg_Yexp (T : pg_T) (k : Nat) : pg_Y T (pg_tok (pg_exp T k)) := pg_Ytok (fun _ h => pg_n2e h)
theorem pg_Ystp (T : pg_T) : pg_Y T (pg_tok pg_stp) := pg_Ytok (fun _ h => pg_n2p h)
theorem pg_Yse {T : pg_T} (k : Nat) : pg_Y T (pg_tok (fun c => pg_exp T k (pg_stp c))) := pg_Ytok (fun _ h => pg_n2e (pg_n2p h))
theorem pg_Yee {T : pg_T} (k j : Nat) : pg_Y T (pg_tok (fun c => pg_exp T k (pg_exp T j c))) := pg_Ytok (fun _ h => pg_n2e (pg_n2e h))
theorem pg_Yed {T : pg_T} (k : Nat) : pg_Y T (pg_tok (fun c => pg_exp T k (pg_dec c))) := pg_Ytok (fun c h => pg_n2e (T := T) (k := k) (c := pg_dec c) h)
theorem pg_Yde {T : pg_T} (k : Nat) : pg_Y T (pg_tok (fun c => pg_dec (pg_exp T k c))) := pg_Ytok (fun c h => pg_n2e (T := T) (k := k) (c := c) h)
theorem pg_Ystop (T : pg_T) : pg_Y T (pg_tok pg_stop) := pg_Ytok (fun _ h => pg_n2s h)
theorem pg_yo {T : pg_T} {c : pg_C} (h0 : c.2.1 = 0) (hl : T.1 c.1 ≠ 45) : (pg_opn c).2.1 = 2 → T.1 (pg_opn c).1 ≠ 45 := by
  unfold pg_opn
  by_cases w : c.2.2 < 60
  · rw [if_pos w]
    intro e
    have e : c.2.1 = 2 := e
    omega
  · rw [if_neg w]
    exact fun _ => hl
theorem pg_Yop (T : pg_T) : pg_Y T (pg_tok pg_opn) := fun c hl => pg_yo hl.1 hl.2
theorem pg_Yleaf {T : pg_T} {k : Nat} {v : pg_C → Int32} {f : pg_C → pg_C} (h : pg_Y T (pg_tok f)) : pg_Y T (pg_leaf T k v f) := h
theorem pg_Ywhl {T : pg_T} {p : pg_C → Bool} {a : pg_P} (hp : pg_G T p) (ha : pg_Y T a) : ∀ n, pg_Y T (pg_whl p a n)
  | 0 => pg_Ynil T
  | n + 1 => pg_Yite (pg_Yseq ha (pg_Ywhl hp ha n) (pg_dwhl hp n)) (pg_Ynil T)
theorem pg_Ysep {T : pg_T} {a : pg_P} (ha : pg_Y T a) (da : pg_D T a) : ∀ n, pg_Y T (pg_sep T a n)
  | 0 => pg_Ynil T
  | n + 1 => pg_Yseq ha (pg_Yite (pg_Yseq (pg_Ystp T) (pg_Ysep ha da n) (pg_dsep da n)) (pg_Ynil T)) (pg_dite (pg_gis T (by decide)) (pg_dnil T))
theorem pg_Yname (T : pg_T) : pg_Y T (pg_name T) := pg_Yleaf (pg_Yexp T 41)
theorem pg_Ysimple (T : pg_T) : pg_Y T (pg_simple T) := pg_Yite (pg_Yleaf (pg_Ystp T)) (pg_Ystop T)
theorem pg_Yconst (T : pg_T) : pg_Y T (pg_const T) := pg_Yite (pg_Yleaf (pg_Ystp T)) (pg_Yite (pg_Yleaf (pg_Yse _)) (pg_Yleaf (pg_Yexp T _)))
theorem pg_Ynout (T : pg_T) : pg_Y T (pg_nout T) := fun c hl e => by
  have h0 : c.2.1 ≠ 2 := by rw [hl.1]; decide
  unfold pg_nout pg_ite at e
  revert e
  cases pg_is T 59 (pg_exp T 41 c)
  · intro e
    exact absurd e (pg_n2e h0)
  · intro e
    exact absurd e (pg_n2e (pg_n2p (pg_n2e h0)))
theorem pg_yos {T : pg_T} {k : Nat} {c : pg_C} (hk : k ≠ 45) (hn : pg_next T k c = true) (hl : pg_live T c) : (pg_opn (pg_stp c)).2.1 = 2 → T.1 (pg_opn (pg_stp c)).1 ≠ 45 := by
  have e1 : pg_stp c = (c.1 + 1, c.2.1, c.2.2) := if_pos hl.1
  have e2 : T.1 (c.1 + 1) = k := beq_iff_eq.mp hn
  rw [e1]
  exact pg_yo (c := (c.1 + 1, c.2.1, c.2.2)) hl.1 (by show T.1 (c.1 + 1) ≠ 45; rw [e2]; exact hk)
theorem pg_Yelem {T : pg_T} {E : pg_P} (h : pg_Y T E) (d : pg_D T E) (c : pg_C) (hn : pg_next T 54 c = true) (hl : pg_live T c) : (pg_elem T E c).1.2.1 = 2 → T.1 (pg_elem T E c).1.1 ≠ 45 := by
  have d1 : pg_D T (pg_tok (fun c => pg_exp T 55 (pg_dec c))) := pg_dtok (pg_fcomp (pg_fexp T (by decide)) (pg_fdec T))
  exact fun e => pg_yd (b := pg_seq E (pg_tok (fun c => pg_exp T 55 (pg_dec c)))) (c := pg_opn (pg_stp c)) (pg_dseq d d1) (pg_Yseq h (pg_Yed 55) d1) (pg_yos (by decide) hn hl) e
theorem pg_Ycall {T : pg_T} {E : pg_P} (h : pg_Y T E) (d : pg_D T E) (c : pg_C) (hn : pg_next T 52 c = true) (hl : pg_live T c) : (pg_call T E c).1.2.1 = 2 → T.1 (pg_call T E c).1.1 ≠ 45 := by
  have d1 : pg_D T (pg_tok (fun c => pg_exp T 53 (pg_dec c))) := pg_dtok (pg_fcomp (pg_fexp T (by decide)) (pg_fdec T))
  unfold pg_call
  generalize pg_M = K
  have h1 : pg_Y T (pg_ite (pg_is T 53) pg_nil (pg_sep T E K)) := pg_Yite (pg_Ynil T) (pg_Ysep h d K)
  have h2 : pg_D T (pg_ite (pg_is T 53) pg_nil (pg_sep T E K)) := pg_dite2 (pg_dnil T) (pg_dsep d K)
  exact fun e => pg_yd (b := pg_seq (pg_ite (pg_is T 53) pg_nil (pg_sep T E K)) (pg_tok (fun c => pg_exp T 53 (pg_dec c)))) (c := pg_opn (pg_stp c)) (pg_dseq h2 d1) (pg_Yseq h1 (pg_Yed 53) d1) (pg_yos (by decide) hn hl) e
theorem pg_Yoper {T : pg_T} {X : Nat → pg_P} (h : ∀ m, pg_Y T (X m)) (d : ∀ m, pg_D T (X m)) : pg_Y T (pg_oper T X) := by
  have d1 : pg_D T (pg_tok (fun c => pg_exp T 53 (pg_dec c))) := pg_dtok (pg_fcomp (pg_fexp T (by decide)) (pg_fdec T))
  have d2 : pg_D T (pg_tok pg_dec) := pg_dtok (pg_fdec T)
  have l2 : pg_Y T (pg_tok pg_dec) := pg_Ytok (fun _ h => h)
  refine pg_Yite ?_ (pg_Yite (pg_Yconst T) (pg_Yite ?_ (pg_Yite (pg_Yit (pg_Yelem (h 2) (d 2)) (pg_Yit (pg_Ycall (h 2) (d 2)) (pg_Ynout T))) (pg_Ystop T))))
  · exact pg_Ynode (pg_Yseq (pg_Yop T) (pg_Yseq (h 0) l2 d2) (pg_dseq (d 0) d2))
  · exact pg_Yseq (pg_Yop T) (pg_Yseq (h 2) (pg_Yed 53) d1) (pg_dseq (d 2) d1)
theorem pg_ysg {k : Nat} {g : Nat} (h : pg_sign k = some g) : k ≠ 46 ∧ k ≠ 45 := by
  constructor
  · intro z; rw [z, show pg_sign 46 = none from by decide] at h; cases h
  · intro z; rw [z, show pg_sign 45 = none from by decide] at h; cases h
theorem pg_Ymore {T : pg_T} {X : Nat → pg_P} (h : ∀ m, pg_Y T (X m)) (d : ∀ m, pg_D T (X m)) (m : Nat) : ∀ (n : Nat) (c : pg_C) (s : List pg_N), (c.2.1 = 2 → T.1 c.1 ≠ 45) → (pg_more T X m n c s).1.2.1 = 2 → T.1 (pg_more T X m n c s).1.1 ≠ 45
  | 0, c, s, g, e => g e
  | n + 1, c, s, g, e => by
    unfold pg_more at e ⊢
    revert e
    cases hs : pg_sign (pg_k T c) with
    | none => exact g
    | some x =>
      show (if m ≤ pg_bind x + 2 then _ else _ : pg_C × List pg_N).1.2.1 = 2 → T.1 (if m ≤ pg_bind x + 2 then _ else _ : pg_C × List pg_N).1.1 ≠ 45
      by_cases w : m ≤ pg_bind x + 2
      · rw [if_pos w]
        obtain ⟨k1, k2⟩ := pg_ysg hs
        have c0 : c.2.1 = 0 := by
          by_cases u : c.2.1 = 0
          · exact u
          · exact absurd (show pg_k T c = 46 from if_neg u) k1
        have kT : pg_k T c = T.1 c.1 := if_pos c0
        exact pg_Ymore h d m n _ _ (pg_yd (d _) (h _) (pg_yo c0 (by rw [← kT]; exact k2)))
      · rw [if_neg w]
        exact g
theorem pg_YX (T : pg_T) : ∀ f m, pg_Y T (pg_X T f m)
  | 0, _ => pg_Ystop T
  | f + 1, m => fun c hl => by
    unfold pg_X
    by_cases q : m = 0
    · rw [if_pos q]
      exact pg_Yoper (pg_YX T f) (pg_dX T f) c hl
    · rw [if_neg q]
      have h1 := pg_Ymore (pg_YX T f) (pg_dX T f) m pg_M (pg_X T f 0 c).1 (pg_X T f 0 c).2 (pg_YX T f 0 c hl)
      unfold pg_expr pg_rst
      generalize pg_more T (pg_X T f) m pg_M (pg_X T f 0 c).1 (pg_X T f 0 c).2 = r at *
      by_cases w : m = 1
      · rw [if_pos w]; exact h1
      · rw [if_neg w]; exact h1
theorem pg_YE (T : pg_T) : pg_Y T (pg_E T) := pg_YX T 200 1
theorem pg_Yarray (T : pg_T) : pg_Y T (pg_array T) := by
  have d1 : pg_D T (pg_seq (pg_tok (fun c => pg_exp T 15 (pg_exp T 55 c))) (pg_simple T)) := pg_dseq (pg_dtok (pg_fcomp (pg_fexp T (by decide)) (pg_fexp T (by decide)))) (pg_dsimple T)
  have l1 := pg_Yseq (pg_Yee (T := T) 15 55) (pg_Ysimple T) (pg_dsimple T)
  have d2 := pg_dseq (pg_dconst T) d1
  have l2 := pg_Yseq (pg_Yconst T) l1 d1
  have d3 := pg_dseq (pg_dtok (pg_fexp T (k := 48) (by decide))) d2
  have l3 := pg_Yseq (pg_Yexp T 48) l2 d2
  have d4 := pg_dseq (pg_dconst T) d3
  have l4 := pg_Yseq (pg_Yconst T) l3 d3
  exact pg_Ynode (pg_Yseq (pg_Yse 54) l4 d4)
theorem pg_Ydecl (T : pg_T) : pg_Y T (pg_decl T) := by
  have d1 : pg_D T (pg_tok (pg_exp T 57)) := pg_dtok (pg_fexp T (by decide))
  have a2 : pg_Y T (pg_ite (pg_is T 47) (pg_seq (pg_tok pg_stp) (pg_const T)) pg_nil) := pg_Yite (pg_Yseq (pg_Ystp T) (pg_Yconst T) (pg_dconst T)) (pg_Ynil T)
  have b2 : pg_D T (pg_ite (pg_is T 47) (pg_seq (pg_tok pg_stp) (pg_const T)) pg_nil) := pg_dite (pg_gis T (by decide)) (pg_dnil T)
  have d2 := pg_dseq b2 d1
  have l2 := pg_Yseq a2 (pg_Yexp T 57) d1
  have a3 : pg_Y T (pg_ite (pg_is T 14) (pg_array T) (pg_ite (pg_is T 41) (pg_leaf T 10 (pg_v T) pg_stp) (pg_simple T))) := pg_Yite (pg_Yarray T) (pg_Yite (pg_Yleaf (pg_Ystp T)) (pg_Ysimple T))
  have b3 : pg_D T (pg_ite (pg_is T 14) (pg_array T) (pg_ite (pg_is T 41) (pg_leaf T 10 (pg_v T) pg_stp) (pg_simple T))) := pg_dite (pg_gis T (by decide)) (pg_dite (pg_gis T (by decide)) (pg_dsimple T))
  have d3 := pg_dseq b3 d2
  have l3 := pg_Yseq a3 l2 d2
  have d4 := pg_dseq (pg_dtok (pg_fexp T (k := 58) (by decide))) d3
  have l4 := pg_Yseq (pg_Yexp T 58) l3 d3
  have a5 : pg_Y T (pg_ite (pg_is T 10) (pg_seq (pg_tok pg_stp) (pg_leaf T 7 (pg_v T) (pg_exp T 43))) pg_nil) := pg_Yite (pg_Yseq (pg_Ystp T) (pg_Yleaf (pg_Yexp T 43)) (pg_dleaf (pg_fexp T (by decide)))) (pg_Ynil T)
  have b5 : pg_D T (pg_ite (pg_is T 10) (pg_seq (pg_tok pg_stp) (pg_leaf T 7 (pg_v T) (pg_exp T 43))) pg_nil) := pg_dite (pg_gis T (by decide)) (pg_dnil T)
  have d5 := pg_dseq b5 d4
  have l5 := pg_Yseq a5 l4 d4
  have hw : pg_Y T (pg_whl (pg_is T 56) (pg_seq (pg_tok pg_stp) (pg_name T)) pg_M) := pg_Ywhl (pg_gis T (by decide)) (pg_Yseq (pg_Ystp T) (pg_Yname T) (pg_dname T)) pg_M
  have d6 := pg_dseq (pg_dwhl (a := pg_seq (pg_tok pg_stp) (pg_name T)) (pg_gis T (k := 56) (by decide)) pg_M) d5
  have l6 := pg_Yseq hw l5 d5
  exact pg_Ynode (pg_Yseq (pg_Yname T) l6 d6)
theorem pg_Ysect (T : pg_T) : pg_Y T (pg_sect T) := by
  have d1 : pg_D T (pg_tok (pg_exp T 9)) := pg_dtok (pg_fexp T (by decide))
  have hg : pg_G T (pg_is T 41) := pg_gis T (by decide)
  have l2 := pg_Yseq (pg_Ywhl hg (pg_Ydecl T) pg_M) (pg_Yexp T 9) d1
  have d2 := pg_dseq (pg_dwhl (a := pg_decl T) hg pg_M) d1
  exact pg_Ynode (pg_Yseq (pg_Ystp T) l2 d2)
theorem pg_Ybody {T : pg_T} {B : pg_P} (h : pg_Y T B) : pg_Y T (pg_body T B) := pg_Ynode h
theorem pg_Ycond {T : pg_T} {B : pg_P} (h : pg_Y T B) (d : pg_D T B) : pg_Y T (pg_cond T B) := by
  have d1 := pg_dseq (pg_dexpt T (k := 17) (by decide)) (pg_dbody (T := T) d)
  exact pg_Yseq (pg_YE T) (pg_Yseq (pg_Yexp T 17) (pg_Ybody h) (pg_dbody d)) d1
theorem pg_Yelse {T : pg_T} {B : pg_P} (h : pg_Y T B) (d : pg_D T B) : pg_Y T (pg_else T B) := pg_Yite (pg_Yseq (pg_Ystp T) (pg_Ybody h) (pg_dbody d)) (pg_Ynil T)
theorem pg_Yif {T : pg_T} {B : pg_P} (h : pg_Y T B) (d : pg_D T B) : pg_Y T (pg_if T B) := by
  have d1 : pg_D T (pg_seq (pg_else T B) (pg_tok (fun c => pg_dec (pg_exp T 20 c)))) := pg_dseq pg_delse (pg_fdx T (by decide))
  have l1 := pg_Yseq (pg_Yelse h d) (pg_Yde (T := T) 20) (pg_fdx T (by decide))
  have hg : pg_G T (pg_is T 18) := pg_gis T (by decide)
  have d2 := pg_dseq (pg_dwhl (a := pg_seq (pg_tok pg_stp) (pg_cond T B)) hg pg_M) d1
  have l2 := pg_Yseq (pg_Ywhl hg (pg_Yseq (pg_Ystp T) (pg_Ycond h d) (pg_dcond d)) pg_M) l1 d1
  exact pg_Ynode (pg_Yseq (pg_Yop T) (pg_Yseq (pg_Ycond h d) l2 d2) (pg_dseq (pg_dcond d) d2))
theorem pg_Yrange (T : pg_T) : pg_Y T (pg_range T) := by
  have d1 : pg_D T (pg_ite (pg_is T 48) (pg_seq (pg_tok pg_stp) (pg_const T)) pg_nil) := pg_dite (pg_gis T (by decide)) (pg_dnil T)
  have l1 : pg_Y T (pg_ite (pg_is T 48) (pg_seq (pg_tok pg_stp) (pg_const T)) pg_nil) := pg_Yite (pg_Yseq (pg_Ystp T) (pg_Yconst T) (pg_dconst T)) (pg_Ynil T)
  exact pg_Ynode (pg_Yseq (pg_Yconst T) l1 d1)
theorem pg_Ychoice {T : pg_T} {B : pg_P} (h : pg_Y T B) (d : pg_D T B) : pg_Y T (pg_choice T B) := by
  have d1 : pg_D T (pg_seq (pg_tok (pg_exp T 58)) (pg_body T B)) := pg_dseq (pg_dexpt T (by decide)) (pg_dbody d)
  exact pg_Ynode (pg_Yseq (pg_Ysep (pg_Yrange T) (pg_drange T) pg_M) (pg_Yseq (pg_Yexp T 58) (pg_Ybody h) (pg_dbody d)) d1)
theorem pg_Ycase {T : pg_T} {B : pg_P} (h : pg_Y T B) (d : pg_D T B) : pg_Y T (pg_case T B) := by
  have d1 : pg_D T (pg_seq (pg_else T B) (pg_tok (fun c => pg_dec (pg_exp T 22 c)))) := pg_dseq pg_delse (pg_fdx T (by decide))
  have l1 := pg_Yseq (pg_Yelse h d) (pg_Yde (T := T) 22) (pg_fdx T (by decide))
  have hg : pg_G T (pg_any T [42, 61, 35, 36]) := pg_gany T (by decide)
  have d2 := pg_dseq (pg_dwhl (a := pg_choice T B) hg pg_M) d1
  have l2 := pg_Yseq (pg_Ywhl hg (pg_Ychoice h d) pg_M) l1 d1
  have d3 := pg_dseq (pg_dexpt T (k := 15) (by decide)) d2
  have l3 := pg_Yseq (pg_Yexp T 15) l2 d2
  exact pg_Ynode (pg_Yseq (pg_Yop T) (pg_Yseq (pg_YE T) l3 d3) (pg_dseq (pg_dE T) d3))
theorem pg_Yfor {T : pg_T} {B : pg_P} (h : pg_Y T B) (d : pg_D T B) : pg_Y T (pg_for T B) := by
  have d1 : pg_D T (pg_tok (fun c => pg_dec (pg_exp T 27 c))) := pg_fdx T (by decide)
  have d2 := pg_dseq (pg_dbody (T := T) d) d1
  have l2 := pg_Yseq (pg_Ybody h) (pg_Yde (T := T) 27) d1
  have d3 := pg_dseq (pg_dexpt T (k := 26) (by decide)) d2
  have l3 := pg_Yseq (pg_Yexp T 26) l2 d2
  have lb : pg_Y T (pg_ite (pg_is T 25) (pg_seq (pg_tok pg_stp) (pg_const T)) pg_nil) := pg_Yite (pg_Yseq (pg_Ystp T) (pg_Yconst T) (pg_dconst T)) (pg_Ynil T)
  have d4 := pg_dseq (pg_oby T).2 d3
  have l4 := pg_Yseq lb l3 d3
  have d5 := pg_dseq (pg_dconst T) d4
  have l5 := pg_Yseq (pg_Yconst T) l4 d4
  have d6 := pg_dseq (pg_dexpt T (k := 24) (by decide)) d5
  have l6 := pg_Yseq (pg_Yexp T 24) l5 d5
  have d7 := pg_dseq (pg_dconst T) d6
  have l7 := pg_Yseq (pg_Yconst T) l6 d6
  have l8 : pg_Y T (pg_tok (fun c => pg_exp T 47 (pg_exp T 41 (pg_opn c)))) := fun c hl => by
    unfold pg_tok
    show (pg_exp T 47 (pg_exp T 41 (pg_opn c))).2.1 = 2 → T.1 (pg_exp T 47 (pg_exp T 41 (pg_opn c))).1 ≠ 45
    by_cases w : c.2.2 < 60
    · have e1 : pg_opn c = (c.1 + 1, c.2.1, c.2.2 + 1) := if_pos w
      intro e
      refine absurd e (pg_n2e (pg_n2e ?_))
      rw [e1]
      show c.2.1 ≠ 2
      rw [hl.1]; decide
    · have e1 : pg_opn c = (c.1, 2, c.2.2) := if_neg w
      rw [e1]
      exact fun _ => hl.2
  exact pg_Ynode (pg_Yseq l8 l7 d7)
theorem pg_dtarg' (T : pg_T) : pg_Y T (pg_targ T) := pg_Yit (pg_Yelem (pg_YE T) (pg_dE T)) (pg_Yname T)
theorem pg_ge {T : pg_T} {k : Nat} {c : pg_C} (hk : k ≠ 46) (g : c.2.1 = 2 → T.1 c.1 ≠ 45) : (pg_exp T k c).2.1 = 2 → T.1 (pg_exp T k c).1 ≠ 45 := fun e => by
  by_cases w : c.2.1 = 2
  · have e1 : pg_k T c = 46 := if_neg (by omega)
    have e2 : pg_exp T k c = pg_stop c := if_neg (by rw [e1]; exact fun z => hk z.symm)
    rw [e2]
    exact g w
  · exact absurd e (pg_n2e w)
theorem pg_Yasg (T : pg_T) : pg_Y T (pg_asg T) := fun c hl e => pg_yd (b := pg_E T) (c := pg_exp T 47 (pg_targ T c).1) (pg_dE T) (pg_YE T) (pg_ge (by decide) (pg_dtarg' T c hl)) e
theorem pg_Ypar (T : pg_T) : pg_Y T (pg_par T) := pg_Ynode (pg_Yseq (pg_Yee 47 41) (pg_YE T) (pg_dE T))
theorem pg_Yinv {T : pg_T} (c : pg_C) (hn : pg_next T 52 c = true) (hl : pg_live T c) : (pg_inv T c).1.2.1 = 2 → T.1 (pg_inv T c).1.1 ≠ 45 := by
  have hP := pg_Ypar T
  have dP := pg_dpar T
  show (pg_seq (pg_ite (pg_is T 53) pg_nil (pg_sep T (pg_par T) pg_M)) (pg_tok (fun c => pg_exp T 53 (pg_dec c))) (pg_opn (pg_stp c))).1.2.1 = 2 → T.1 (pg_seq (pg_ite (pg_is T 53) pg_nil (pg_sep T (pg_par T) pg_M)) (pg_tok (fun c => pg_exp T 53 (pg_dec c))) (pg_opn (pg_stp c))).1.1 ≠ 45
  generalize pg_par T = P at *
  generalize pg_M = K
  have h1 : pg_Y T (pg_ite (pg_is T 53) pg_nil (pg_sep T P K)) := pg_Yite (pg_Ynil T) (pg_Ysep hP dP K)
  have d1 : pg_D T (pg_ite (pg_is T 53) pg_nil (pg_sep T P K)) := pg_dite2 (pg_dnil T) (pg_dsep dP K)
  exact fun e => pg_yd (b := pg_seq (pg_ite (pg_is T 53) pg_nil (pg_sep T P K)) (pg_tok (fun c => pg_exp T 53 (pg_dec c)))) (c := pg_opn (pg_stp c)) (pg_dseq d1 (pg_fxd T (by decide))) (pg_Yseq h1 (pg_Yed 53) (pg_fxd T (by decide))) (pg_yos (by decide) hn hl) e
theorem pg_Ystmt {T : pg_T} {B : pg_P} (h : pg_Y T B) (d : pg_D T B) : pg_Y T (pg_stmt T B) := pg_Yseq (pg_Yite (pg_Ynil T) (pg_Yite (pg_Yit pg_Yinv (pg_Yasg T)) (pg_Yite (pg_Yif h d) (pg_Yite (pg_Ycase h d) (pg_Yite (pg_Yfor h d) (pg_Yite (pg_Yleaf (pg_Ystp T)) (pg_Yleaf (pg_Ystp T)))))))) (pg_Yexp T 57) (pg_dexpt T (by decide))
theorem pg_YB (T : pg_T) : ∀ f, pg_Y T (pg_B T f)
  | 0 => pg_Ynil T
  | f + 1 => pg_Ywhl (pg_gany T (by decide)) (pg_Ystmt (pg_YB T f) (pg_dB T f)) pg_M
theorem pg_n2k {T : pg_T} {x y z : Nat} {c : pg_C} (h : c.2.1 ≠ 2) : (pg_skm T x y z c).2.1 ≠ 2 := by
  unfold pg_skm
  split
  · exact h
  · exact pg_n2p h
theorem pg_Ycont (T : pg_T) : pg_Y T (pg_cont T) := pg_Ynode (pg_Yseq (pg_Ytok (fun _ h => pg_n2k h)) (pg_Ynout T) (pg_dnout T))
theorem pg_Ycoil (T : pg_T) : pg_Y T (pg_coil T) := pg_Ynode (pg_Yseq (pg_Ytok (fun _ h => pg_n2k (pg_n2p h))) (pg_Yseq (pg_Yname T) (pg_Yexp T 53) (pg_dexpt T (by decide))) (pg_dseq (pg_dname T) (pg_dexpt T (by decide))))
theorem pg_Ycell (T : pg_T) : pg_Y T (pg_cell T) := pg_Yite (pg_Yleaf (pg_Ystp T)) (pg_Yite (pg_Yleaf (pg_Ystp T)) (pg_Yite (pg_Ycoil T) (pg_Ycont T)))
theorem pg_Ycells (T : pg_T) : ∀ n, pg_Y T (pg_cells T n)
  | 0 => pg_Ynil T
  | n + 1 => pg_Yseq (pg_Ycell T) (pg_Yite (pg_Yseq (pg_Yleaf (pg_Ystp T)) (pg_Ycells T n) (pg_dcells T n)) (pg_Yite (pg_Ycells T n) (pg_Ynil T))) (pg_dite (pg_gis T (by decide)) (pg_dite (pg_gany T (by decide)) (pg_dnil T)))
theorem pg_Yrow (T : pg_T) : pg_Y T (pg_row T) := pg_Ynode (pg_Yseq (pg_Ycells T pg_M) (pg_Yexp T 57) (pg_dexpt T (by decide)))
theorem pg_Yrung (T : pg_T) : pg_Y T (pg_rung T) := by
  have hg : pg_G T (pg_isc T) := pg_gany T (by decide)
  have d1 : pg_D T (pg_tok (pg_exp T 40)) := pg_dexpt T (by decide)
  have d2 := pg_dseq (pg_dwhl (a := pg_row T) hg pg_M) d1
  have l2 := pg_Yseq (pg_Ywhl hg (pg_Yrow T) pg_M) (pg_Yexp T 40) d1
  exact pg_Ynode (pg_Yseq (pg_Ystp T) (pg_Yseq (pg_Yrow T) l2 d2) (pg_dseq (pg_drow T) d2))
theorem pg_Yladd (T : pg_T) : pg_Y T (pg_ladd T) := by
  have hg : pg_G T (pg_is T 39) := pg_gis T (by decide)
  have d1 : pg_D T (pg_tok (pg_exp T 38)) := pg_dexpt T (by decide)
  exact pg_Ynode (pg_Yseq (pg_Ystp T) (pg_Yseq (pg_Ywhl hg (pg_Yrung T) pg_M) (pg_Yexp T 38) d1) (pg_dseq (pg_dwhl (a := pg_rung T) hg pg_M) d1))
theorem pg_Yin (T : pg_T) (c : pg_C) : pg_Y T (pg_in T c) := by
  have hB := pg_YB T 100
  have dB := pg_dB T 100
  unfold pg_in
  generalize pg_B T 100 = B at *
  have a2 : pg_Y T (pg_ite (pg_is T 37) (pg_ladd T) (pg_body T B)) := pg_Yite (pg_Yladd T) (pg_Ybody hB)
  have b2 : pg_D T (pg_ite (pg_is T 37) (pg_ladd T) (pg_body T B)) := pg_dite (pg_gis T (by decide)) (pg_dbody dB)
  have hg : pg_G T (pg_any T [6, 7, 8]) := pg_gany T (by decide)
  have d3 := pg_dseq (pg_dwhl (a := pg_sect T) hg pg_M) b2
  have l3 := pg_Yseq (pg_Ywhl hg (pg_Ysect T) pg_M) a2 b2
  have a4 : pg_Y T (if pg_is T 0 c = true then pg_seq (pg_tok (pg_exp T 58)) (pg_simple T) else pg_nil) := by
    by_cases h : pg_is T 0 c = true
    · rw [if_pos h]; exact pg_Yseq (pg_Yexp T 58) (pg_Ysimple T) (pg_dsimple T)
    · rw [if_neg h]; exact pg_Ynil T
  exact pg_Yseq a4 l3 d3
theorem pg_Yblock (T : pg_T) (c : pg_C) (hc : pg_any T [0, 2, 4] c = true) (hl : pg_live T c) : (pg_block T c).1.2.1 = 2 → T.1 (pg_block T c).1.1 ≠ 45 := by
  have hw : pg_k T c = 0 ∨ pg_k T c = 2 ∨ pg_k T c = 4 := by
    unfold pg_any at hc
    simpa using hc
  have e1 : (pg_block T c).1 = pg_exp T (pg_k T c + 1) (pg_in T c (pg_exp T 41 (pg_stp c))).1 := by
    unfold pg_block pg_in
    generalize pg_B T 100 = B
    generalize pg_M = K
    rfl
  rw [e1]
  refine pg_ge (by omega) (pg_yd (pg_din T c) (pg_Yin T c) (fun e => absurd e ?_))
  exact pg_n2e (pg_n2p (by rw [hl.1]; decide))
theorem pg_Yblocks (T : pg_T) : ∀ n, pg_Y T (pg_whl (pg_any T [0, 2, 4]) (pg_block T) n)
  | 0 => pg_Ynil T
  | n + 1 => by
    have ih := pg_Yblocks T n
    have hg : pg_G T (pg_any T [0, 2, 4]) := pg_gany T (by decide)
    refine pg_Yit (fun c hc hl => ?_) (pg_Ynil T)
    exact fun e => pg_yd (b := pg_whl (pg_any T [0, 2, 4]) (pg_block T) n) (c := (pg_block T c).1) (pg_dwhl hg n) ih (pg_Yblock T c hc hl) e
