/-! STATEMENTS: what is open -/
def pg_O1 (T : pg_T) (a : pg_P) : Prop := ∀ c, pg_live T (a c).1 → c.2.2 ≤ (a c).1.2.2 + 1
theorem pg_o1seq {T : pg_T} {a b : pg_P} (ha : pg_O T a) (hb : pg_O1 T b) (db : pg_D T b) : pg_O1 T (pg_seq a b) := fun c h => Nat.le_trans (ha c (pg_bk db h)) (hb _ h)
theorem pg_oopn {T : pg_T} {b : pg_P} {g : pg_C → pg_C} (hb : pg_O1 T b) (db : pg_D T b) (hg : ∀ c, (g c).2.2 = c.2.2) : pg_O T (pg_seq (pg_tok (fun c => pg_opn (g c))) b) := fun c h => by
  have h1 := hb _ h
  have h2 := (pg_lopn (pg_bk (a := b) db h)).2.2
  have h3 : (pg_opn (g c)).2.2 = (g c).2.2 + 1 := by rw [h2]
  have h4 := hg c
  show c.2.2 ≤ (b (pg_opn (g c))).1.2.2
  have h5 : (pg_tok (fun c => pg_opn (g c)) c).1.2.2 = (pg_opn (g c)).2.2 := rfl
  have h1 : (pg_opn (g c)).2.2 ≤ (b (pg_opn (g c))).1.2.2 + 1 := h1
  omega
theorem pg_o1e {T : pg_T} {k : Nat} (hk : k ≠ 46 ∧ k ≠ 45) : pg_O1 T (pg_tok (fun c => pg_dec (pg_exp T k c))) := fun c _ => by
  show c.2.2 ≤ (pg_exp T k c).2.2 - 1 + 1
  rw [pg_oexp]
  omega
theorem pg_o1d {T : pg_T} {k : Nat} (hk : k ≠ 46 ∧ k ≠ 45) : pg_O1 T (pg_tok (fun c => pg_exp T k (pg_dec c))) := fun c _ => by
  show c.2.2 ≤ (pg_exp T k (pg_dec c)).2.2 + 1
  rw [pg_oexp]
  show c.2.2 ≤ c.2.2 - 1 + 1
  omega
theorem pg_owhl {T : pg_T} {p : pg_C → Bool} {a : pg_P} (hp : pg_G T p) (ha : pg_O T a) : ∀ n, pg_O T (pg_whl p a n)
  | 0 => pg_onil T
  | n + 1 => pg_oite (pg_oseq ha (pg_owhl hp ha n) (pg_dwhl hp n)) (pg_onil T)
theorem pg_oexpt (T : pg_T) (k : Nat) : pg_O T (pg_tok (pg_exp T k)) := pg_oeq (fun _ => pg_oexp)
theorem pg_ostpt (T : pg_T) : pg_O T (pg_tok pg_stp) := pg_oeq (fun _ => pg_ostp)
theorem pg_oname (T : pg_T) : pg_O T (pg_name T) := pg_oleaf (fun _ => pg_oexp)
theorem pg_dexpt (T : pg_T) {k : Nat} (hk : k ≠ 46 ∧ k ≠ 45) : pg_D T (pg_tok (pg_exp T k)) := pg_dtok (pg_fexp T hk)
theorem pg_dbody {T : pg_T} {B : pg_P} (h : pg_D T B) : pg_D T (pg_body T B) := pg_dnode h
theorem pg_obody {T : pg_T} {B : pg_P} (h : pg_O T B) : pg_O T (pg_body T B) := pg_onode h
theorem pg_dcond {T : pg_T} {B : pg_P} (h : pg_D T B) : pg_D T (pg_cond T B) := pg_dseq (pg_dE T) (pg_dseq (pg_dexpt T (by decide)) (pg_dbody h))
theorem pg_ocond {T : pg_T} {B : pg_P} (h : pg_O T B) (d : pg_D T B) : pg_O T (pg_cond T B) := pg_oseq (pg_oE T) (pg_oseq (pg_oexpt T 17) (pg_obody h) (pg_dbody d)) (pg_dseq (pg_dexpt T (by decide)) (pg_dbody d))
theorem pg_delse {T : pg_T} {B : pg_P} : pg_D T (pg_else T B) := pg_dite (pg_gis T (by decide)) (pg_dnil T)
theorem pg_oelse {T : pg_T} {B : pg_P} (h : pg_O T B) (d : pg_D T B) : pg_O T (pg_else T B) := pg_oite (pg_oseq (pg_ostpt T) (pg_obody h) (pg_dbody d)) (pg_onil T)
theorem pg_fdx (T : pg_T) {k : Nat} (hk : k ≠ 46 ∧ k ≠ 45) : pg_D T (pg_tok (fun c => pg_dec (pg_exp T k c))) := pg_dtok (pg_fcomp (pg_fdec T) (pg_fexp T hk))
theorem pg_fxd (T : pg_T) {k : Nat} (hk : k ≠ 46 ∧ k ≠ 45) : pg_D T (pg_tok (fun c => pg_exp T k (pg_dec c))) := pg_dtok (pg_fcomp (pg_fexp T hk) (pg_fdec T))
theorem pg_oif {T : pg_T} {B : pg_P} (h : pg_O T B) (d : pg_D T B) : pg_O T (pg_if T B) := by
  have d1 : pg_D T (pg_seq (pg_else T B) (pg_tok (fun c => pg_dec (pg_exp T 20 c)))) := pg_dseq pg_delse (pg_fdx T (by decide))
  have o1 : pg_O1 T (pg_seq (pg_else T B) (pg_tok (fun c => pg_dec (pg_exp T 20 c)))) := pg_o1seq (pg_oelse h d) (pg_o1e (by decide)) (pg_fdx T (by decide))
  have d2 := pg_dseq (pg_dwhl (a := pg_seq (pg_tok pg_stp) (pg_cond T B)) (pg_gis T (k := 18) (by decide)) pg_M) d1
  have o2 := pg_o1seq (pg_owhl (pg_gis T (k := 18) (by decide)) (pg_oseq (pg_ostpt T) (pg_ocond h d) (pg_dcond d)) pg_M) o1 d1
  exact pg_onode (pg_oopn (g := id) (pg_o1seq (pg_ocond h d) o2 d2) (pg_dseq (pg_dcond d) d2) (fun _ => rfl))
theorem pg_drange (T : pg_T) : pg_D T (pg_range T) := pg_dnode (pg_dseq (pg_dconst T) (pg_dite (pg_gis T (by decide)) (pg_dnil T)))
theorem pg_orange (T : pg_T) : pg_O T (pg_range T) := pg_onode (pg_oseq (pg_oconst T) (pg_oite (pg_oseq (pg_ostpt T) (pg_oconst T) (pg_dconst T)) (pg_onil T)) (pg_dite (pg_gis T (by decide)) (pg_dnil T)))
theorem pg_ochoice {T : pg_T} {B : pg_P} (h : pg_O T B) (d : pg_D T B) : pg_O T (pg_choice T B) := by
  have d1 : pg_D T (pg_seq (pg_tok (pg_exp T 58)) (pg_body T B)) := pg_dseq (pg_dexpt T (by decide)) (pg_dbody d)
  exact pg_onode (pg_oseq (pg_osep (pg_orange T) (pg_drange T) pg_M) (pg_oseq (pg_oexpt T 58) (pg_obody h) (pg_dbody d)) d1)
theorem pg_ocase {T : pg_T} {B : pg_P} (h : pg_O T B) (d : pg_D T B) : pg_O T (pg_case T B) := by
  have d1 : pg_D T (pg_seq (pg_else T B) (pg_tok (fun c => pg_dec (pg_exp T 22 c)))) := pg_dseq pg_delse (pg_fdx T (by decide))
  have o1 : pg_O1 T (pg_seq (pg_else T B) (pg_tok (fun c => pg_dec (pg_exp T 22 c)))) := pg_o1seq (pg_oelse h d) (pg_o1e (by decide)) (pg_fdx T (by decide))
  have hg : pg_G T (pg_any T [42, 61, 35, 36]) := pg_gany T (by decide)
  have d2 := pg_dseq (pg_dwhl (a := pg_choice T B) hg pg_M) d1
  have o2 := pg_o1seq (pg_owhl hg (pg_ochoice h d) pg_M) o1 d1
  have d3 := pg_dseq (pg_dexpt T (k := 15) (by decide)) d2
  have o3 := pg_o1seq (pg_oexpt T 15) o2 d2
  exact pg_onode (pg_oopn (g := id) (pg_o1seq (pg_oE T) o3 d3) (pg_dseq (pg_dE T) d3) (fun _ => rfl))
theorem pg_oby (T : pg_T) : pg_O T (pg_ite (pg_is T 25) (pg_seq (pg_tok pg_stp) (pg_const T)) pg_nil) ∧ pg_D T (pg_ite (pg_is T 25) (pg_seq (pg_tok pg_stp) (pg_const T)) pg_nil) := ⟨pg_oite (pg_oseq (pg_ostpt T) (pg_oconst T) (pg_dconst T)) (pg_onil T), pg_dite (pg_gis T (by decide)) (pg_dnil T)⟩
theorem pg_ofor {T : pg_T} {B : pg_P} (h : pg_O T B) (d : pg_D T B) : pg_O T (pg_for T B) := by
  have d1 : pg_D T (pg_tok (fun c => pg_dec (pg_exp T 27 c))) := pg_fdx T (by decide)
  have d2 := pg_dseq (pg_dbody (T := T) d) d1
  have o2 := pg_o1seq (pg_obody (T := T) h) (pg_o1e (T := T) (k := 27) (by decide)) d1
  have d3 := pg_dseq (pg_dexpt T (k := 26) (by decide)) d2
  have o3 := pg_o1seq (pg_oexpt T 26) o2 d2
  have d4 := pg_dseq (pg_oby T).2 d3
  have o4 := pg_o1seq (pg_oby T).1 o3 d3
  have d5 := pg_dseq (pg_dconst T) d4
  have o5 := pg_o1seq (pg_oconst T) o4 d4
  have d6 := pg_dseq (pg_dexpt T (k := 24) (by decide)) d5
  have o6 := pg_o1seq (pg_oexpt T 24) o5 d5
  have d7 := pg_dseq (pg_dconst T) d6
  have o7 := pg_o1seq (pg_oconst T) o6 d6
  intro c hc
  have hc : pg_live T ((pg_seq (pg_const T) (pg_seq (pg_tok (pg_exp T 24)) (pg_seq (pg_const T) (pg_seq (pg_ite (pg_is T 25) (pg_seq (pg_tok pg_stp) (pg_const T)) pg_nil) (pg_seq (pg_tok (pg_exp T 26)) (pg_seq (pg_body T B) (pg_tok (fun c => pg_dec (pg_exp T 27 c))))))))) (pg_exp T 47 (pg_exp T 41 (pg_opn c)))).1 := hc
  have h1 := o7 _ hc
  have h2 := pg_lopn (pg_fbk (pg_fexp T (by decide)) (pg_fbk (pg_fexp T (by decide)) (pg_bk d7 hc)))
  rw [pg_oexp, pg_oexp] at h1
  have h3 : (pg_opn c).2.2 = c.2.2 + 1 := by rw [h2.2.2]
  show c.2.2 ≤ ((pg_seq (pg_const T) (pg_seq (pg_tok (pg_exp T 24)) (pg_seq (pg_const T) (pg_seq (pg_ite (pg_is T 25) (pg_seq (pg_tok pg_stp) (pg_const T)) pg_nil) (pg_seq (pg_tok (pg_exp T 26)) (pg_seq (pg_body T B) (pg_tok (fun c => pg_dec (pg_exp T 27 c))))))))) (pg_exp T 47 (pg_exp T 41 (pg_opn c)))).1.2.2
  omega
theorem pg_otarg (T : pg_T) : pg_O T (pg_targ T) := pg_oite (pg_oelem (pg_oE T) (pg_dE T)) (pg_oname T)
theorem pg_oasg (T : pg_T) : pg_O T (pg_asg T) := fun c h => by
  have h1 : pg_live T (pg_targ T c).1 := pg_fbk (pg_fexp T (by decide)) (pg_bk (pg_dE T) h)
  have h2 := pg_otarg T c h1
  show c.2.2 ≤ (pg_exp T 47 (pg_targ T c).1).2.2
  rw [pg_oexp]
  exact h2
def pg_par (T : pg_T) : pg_P := pg_node 14 (pg_pl T) (pg_v T) (pg_seq (pg_tok (fun c => pg_exp T 47 (pg_exp T 41 c))) (pg_E T))
theorem pg_dpar (T : pg_T) : pg_D T (pg_par T) := pg_dnode (pg_dseq (pg_dtok (pg_fcomp (pg_fexp T (by decide)) (pg_fexp T (by decide)))) (pg_dE T))
theorem pg_opar (T : pg_T) : pg_O T (pg_par T) := pg_onode (pg_oseq (pg_oeq (fun _ => pg_oexp.trans pg_oexp)) (pg_oE T) (pg_dE T))
theorem pg_oinv (T : pg_T) : pg_O T (pg_inv T) := by
  have h1 : pg_O T (pg_ite (pg_is T 53) pg_nil (pg_sep T (pg_par T) pg_M)) := pg_oite (pg_onil T) (pg_osep (pg_opar T) (pg_dpar T) pg_M)
  exact pg_onode (pg_oopn (g := pg_stp) (pg_o1seq h1 (pg_o1d (by decide)) (pg_fxd T (by decide))) (pg_dseq (pg_dite2 (pg_dnil T) (pg_dsep (pg_dpar T) pg_M)) (pg_fxd T (by decide))) (fun _ => pg_ostp))
theorem pg_ostmt {T : pg_T} {B : pg_P} (h : pg_O T B) (d : pg_D T B) : pg_O T (pg_stmt T B) := pg_oseq (pg_oite (pg_onil T) (pg_oite (pg_oite (pg_oinv T) (pg_oasg T)) (pg_oite (pg_oif h d) (pg_oite (pg_ocase h d) (pg_oite (pg_ofor h d) (pg_oite (pg_oleaf (fun _ => pg_ostp)) (pg_oleaf (fun _ => pg_ostp)))))))) (pg_oexpt T 57) (pg_dexpt T (by decide))
theorem pg_oB (T : pg_T) : ∀ f, pg_O T (pg_B T f)
  | 0 => pg_onil T
  | f + 1 => pg_owhl (pg_gany T (by decide)) (pg_ostmt (pg_oB T f) (pg_dB T f)) pg_M
/-- at least so much is open, where reading goes on -/
def pg_lb (T : pg_T) (o : Nat) (c : pg_C) : Prop := pg_live T c → o ≤ c.2.2
theorem lb_o {T : pg_T} {c : pg_C} : pg_lb T (c.2.2 + 1) (pg_opn c) := fun z => by
  have := (pg_lopn z).2.2
  rw [this]
  exact Nat.le_refl _
theorem lb_a {T : pg_T} {o : Nat} {a : pg_P} (hO : pg_O T a) (hD : pg_D T a) {c : pg_C} (h : pg_lb T o c) : pg_lb T o (a c).1 := fun z => Nat.le_trans (h (pg_bk hD z)) (hO c z)
theorem lb_x {T : pg_T} {o k : Nat} {c : pg_C} (hk : k ≠ 46 ∧ k ≠ 45) (h : pg_lb T o c) : pg_lb T o (pg_exp T k c) := lb_a (a := pg_tok (pg_exp T k)) (pg_oexpt T k) (pg_dexpt T hk) h
theorem lb_s {T : pg_T} {o : Nat} {c : pg_C} (hl : pg_live T c ∧ T.1 c.1 ≠ 44) (h : pg_lb T o c) : pg_lb T o (pg_stp c) := fun _ => by
  rw [pg_ostp]
  exact h hl.1
