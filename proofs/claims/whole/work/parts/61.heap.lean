/-! TREES: nodes in the order of a walk, each with the size of what it begins -/
def tz_c (l : List pg_N) : Prop := ∀ (j : Nat) (x : pg_N), l[j]? = some x → 1 ≤ x.2.2.2 ∧ j + x.2.2.2 ≤ l.length
def tz_l (l : List pg_N) : Prop := ∀ (j : Nat) (x : pg_N) (i : Nat) (y : pg_N), l[j]? = some x → l[i]? = some y → j < i → i < j + x.2.2.2 → i + y.2.2.2 ≤ j + x.2.2.2
def tz_w (l : List pg_N) : Prop := tz_c l ∧ tz_l l
theorem tz_w0 : tz_w [] := ⟨fun j x h => by simp at h, fun j x i y h => by simp at h⟩
theorem tz_wa {l m : List pg_N} (hl : tz_w l) (hm : tz_w m) : tz_w (l ++ m) := by
  refine ⟨fun j x h => ?_, fun j x i y h1 h2 h3 h4 => ?_⟩
  · by_cases q : j < l.length
    · rw [List.getElem?_append_left q] at h
      have := hl.1 j x h
      rw [List.length_append]; omega
    · rw [List.getElem?_append_right (by omega)] at h
      have := hm.1 _ x h
      rw [List.length_append]; omega
  · by_cases q : j < l.length
    · rw [List.getElem?_append_left q] at h1
      have := hl.1 j x h1
      rw [List.getElem?_append_left (by omega)] at h2
      exact hl.2 j x i y h1 h2 h3 h4
    · rw [List.getElem?_append_right (by omega)] at h1
      rw [List.getElem?_append_right (by omega)] at h2
      have := hm.2 _ x _ y h1 h2 (by omega) (by omega)
      omega
theorem tz_wn {l : List pg_N} (hl : tz_w l) (k p : Nat) (v : Int32) : tz_w ((k, p, v, l.length + 1) :: l) := by
  refine ⟨fun j x h => ?_, fun j x i y h1 h2 h3 h4 => ?_⟩
  · cases j with
    | zero =>
      rw [List.getElem?_cons_zero] at h
      cases h
      rw [List.length_cons]
      exact ⟨Nat.succ_pos _, Nat.le_of_eq (Nat.zero_add _)⟩
    | succ j =>
      rw [List.getElem?_cons_succ] at h
      have := hl.1 j x h
      rw [List.length_cons]; omega
  · cases i with
    | zero => omega
    | succ i =>
      rw [List.getElem?_cons_succ] at h2
      cases j with
      | zero =>
        rw [List.getElem?_cons_zero] at h1
        cases h1
        have := hl.1 i y h2
        show i + 1 + _ ≤ 0 + (l.length + 1)
        omega
      | succ j =>
        rw [List.getElem?_cons_succ] at h1
        have := hl.2 j x i y h1 h2 (by omega) (by omega)
        omega
def pg_W (a : pg_P) : Prop := ∀ c, tz_w (a c).2
theorem pg_wnil : pg_W pg_nil := fun _ => tz_w0
theorem pg_wtok {f : pg_C → pg_C} : pg_W (pg_tok f) := fun _ => tz_w0
theorem pg_wseq {a b : pg_P} (ha : pg_W a) (hb : pg_W b) : pg_W (pg_seq a b) := fun c => tz_wa (ha c) (hb _)
theorem pg_wite {p : pg_C → Bool} {a b : pg_P} (ha : pg_W a) (hb : pg_W b) : pg_W (pg_ite p a b) := fun c => by
  unfold pg_ite
  cases p c
  · exact hb c
  · exact ha c
theorem pg_wnode {k : Nat} {p : pg_C → Nat} {v : pg_C → Int32} {a : pg_P} (ha : pg_W a) : pg_W (pg_node k p v a) := fun c => tz_wn (ha c) _ _ _
theorem pg_wleaf {T : pg_T} {k : Nat} {v : pg_C → Int32} {f : pg_C → pg_C} : pg_W (pg_leaf T k v f) := fun _ => tz_wn tz_w0 _ _ _
theorem pg_wwhl {p : pg_C → Bool} {a : pg_P} (ha : pg_W a) : ∀ n, pg_W (pg_whl p a n)
  | 0 => pg_wnil
  | n + 1 => pg_wite (pg_wseq ha (pg_wwhl ha n)) pg_wnil
theorem pg_wsep {T : pg_T} {a : pg_P} (ha : pg_W a) : ∀ n, pg_W (pg_sep T a n)
  | 0 => pg_wnil
  | n + 1 => pg_wseq ha (pg_wite (pg_wseq pg_wtok (pg_wsep ha n)) pg_wnil)
theorem pg_wname (T : pg_T) : pg_W (pg_name T) := pg_wleaf
theorem pg_wsimple (T : pg_T) : pg_W (pg_simple T) := pg_wite pg_wleaf pg_wtok
theorem pg_wconst (T : pg_T) : pg_W (pg_const T) := pg_wite pg_wleaf (pg_wite pg_wleaf pg_wleaf)
theorem pg_warray (T : pg_T) : pg_W (pg_array T) := pg_wnode (pg_wseq pg_wtok (pg_wseq (pg_wconst T) (pg_wseq pg_wtok (pg_wseq (pg_wconst T) (pg_wseq pg_wtok (pg_wsimple T))))))
theorem pg_wdecl (T : pg_T) : pg_W (pg_decl T) := pg_wnode (pg_wseq (pg_wname T) (pg_wseq (pg_wwhl (pg_wseq pg_wtok (pg_wname T)) pg_M) (pg_wseq (pg_wite (pg_wseq pg_wtok pg_wleaf) pg_wnil) (pg_wseq pg_wtok (pg_wseq (pg_wite (pg_warray T) (pg_wite pg_wleaf (pg_wsimple T))) (pg_wseq (pg_wite (pg_wseq pg_wtok (pg_wconst T)) pg_wnil) pg_wtok))))))
theorem pg_wsect (T : pg_T) : pg_W (pg_sect T) := pg_wnode (pg_wseq pg_wtok (pg_wseq (pg_wwhl (pg_wdecl T) pg_M) pg_wtok))
theorem pg_wnout (T : pg_T) : pg_W (pg_nout T) := fun c => by
  unfold pg_nout pg_ite
  cases pg_is T 59 (pg_exp T 41 c)
  · exact tz_wn tz_w0 _ _ _
  · exact tz_wn (tz_wn tz_w0 _ _ _) _ _ _
theorem pg_welem {T : pg_T} {E : pg_P} (h : pg_W E) : pg_W (pg_elem T E) := pg_wnode (pg_wseq pg_wtok (pg_wseq h pg_wtok))
theorem pg_wcall {T : pg_T} {E : pg_P} (h : pg_W E) : pg_W (pg_call T E) := pg_wnode (pg_wseq pg_wtok (pg_wseq (pg_wite pg_wnil (pg_wsep h pg_M)) pg_wtok))
theorem pg_woper {T : pg_T} {X : Nat → pg_P} (h : ∀ m, pg_W (X m)) : pg_W (pg_oper T X) :=
  pg_wite (pg_wnode (pg_wseq pg_wtok (pg_wseq (h 0) pg_wtok))) (pg_wite (pg_wconst T) (pg_wite (pg_wseq pg_wtok (pg_wseq (h 2) pg_wtok)) (pg_wite (pg_wite (pg_welem (h 2)) (pg_wite (pg_wcall (h 2)) (pg_wnout T))) pg_wtok)))
theorem pg_wmore {T : pg_T} {X : Nat → pg_P} (h : ∀ m, pg_W (X m)) (m : Nat) : ∀ (n : Nat) (c : pg_C) (s : List pg_N), tz_w s → tz_w (pg_more T X m n c s).2
  | 0, _, _, hs => hs
  | n + 1, c, s, hs => by
    unfold pg_more
    cases pg_sign (pg_k T c) with
    | none => exact hs
    | some g =>
      show tz_w (if m ≤ pg_bind g + 2 then _ else _ : pg_C × List pg_N).2
      by_cases w : m ≤ pg_bind g + 2
      · rw [if_pos w]
        exact pg_wmore h m n _ _ (tz_wn (tz_wa hs (h _ _)) _ _ _)
      · rw [if_neg w]
        exact hs
theorem pg_wX (T : pg_T) : ∀ f m, pg_W (pg_X T f m)
  | 0, _ => pg_wtok
  | f + 1, m => fun c => by
    unfold pg_X
    by_cases q : m = 0
    · rw [if_pos q]
      exact pg_woper (pg_wX T f) c
    · rw [if_neg q]
      exact pg_wmore (pg_wX T f) m pg_M _ _ (pg_wX T f 0 c)
theorem pg_wE (T : pg_T) : pg_W (pg_E T) := pg_wX T 200 1
theorem pg_wbody {T : pg_T} {B : pg_P} (h : pg_W B) : pg_W (pg_body T B) := pg_wnode h
theorem pg_wasg (T : pg_T) : pg_W (pg_asg T) := fun c => tz_wn (tz_wa (pg_wite (pg_welem (pg_wE T)) (pg_wname T) c) (pg_wE T _)) _ _ _
theorem pg_winv (T : pg_T) : pg_W (pg_inv T) := pg_wnode (pg_wseq pg_wtok (pg_wseq (pg_wite pg_wnil (pg_wsep (pg_wnode (pg_wseq pg_wtok (pg_wE T))) pg_M)) pg_wtok))
theorem pg_welse {T : pg_T} {B : pg_P} (h : pg_W B) : pg_W (pg_else T B) := pg_wite (pg_wseq pg_wtok (pg_wbody h)) pg_wnil
theorem pg_wcond {T : pg_T} {B : pg_P} (h : pg_W B) : pg_W (pg_cond T B) := pg_wseq (pg_wE T) (pg_wseq pg_wtok (pg_wbody h))
theorem pg_wif {T : pg_T} {B : pg_P} (h : pg_W B) : pg_W (pg_if T B) := pg_wnode (pg_wseq pg_wtok (pg_wseq (pg_wcond h) (pg_wseq (pg_wwhl (pg_wseq pg_wtok (pg_wcond h)) pg_M) (pg_wseq (pg_welse h) pg_wtok))))
theorem pg_wrange (T : pg_T) : pg_W (pg_range T) := pg_wnode (pg_wseq (pg_wconst T) (pg_wite (pg_wseq pg_wtok (pg_wconst T)) pg_wnil))
theorem pg_wchoice {T : pg_T} {B : pg_P} (h : pg_W B) : pg_W (pg_choice T B) := pg_wnode (pg_wseq (pg_wsep (pg_wrange T) pg_M) (pg_wseq pg_wtok (pg_wbody h)))
theorem pg_wcase {T : pg_T} {B : pg_P} (h : pg_W B) : pg_W (pg_case T B) := pg_wnode (pg_wseq pg_wtok (pg_wseq (pg_wE T) (pg_wseq pg_wtok (pg_wseq (pg_wwhl (pg_wchoice h) pg_M) (pg_wseq (pg_welse h) pg_wtok)))))
theorem pg_wfor {T : pg_T} {B : pg_P} (h : pg_W B) : pg_W (pg_for T B) := pg_wnode (pg_wseq pg_wtok (pg_wseq (pg_wconst T) (pg_wseq pg_wtok (pg_wseq (pg_wconst T) (pg_wseq (pg_wite (pg_wseq pg_wtok (pg_wconst T)) pg_wnil) (pg_wseq pg_wtok (pg_wseq (pg_wbody h) pg_wtok)))))))
theorem pg_wstmt {T : pg_T} {B : pg_P} (h : pg_W B) : pg_W (pg_stmt T B) := pg_wseq (pg_wite pg_wnil (pg_wite (pg_wite (pg_winv T) (pg_wasg T)) (pg_wite (pg_wif h) (pg_wite (pg_wcase h) (pg_wite (pg_wfor h) (pg_wite pg_wleaf pg_wleaf)))))) pg_wtok
theorem pg_wB (T : pg_T) : ∀ f, pg_W (pg_B T f)
  | 0 => pg_wnil
  | f + 1 => pg_wwhl (pg_wstmt (pg_wB T f)) pg_M
theorem pg_wcont (T : pg_T) : pg_W (pg_cont T) := pg_wnode (pg_wseq pg_wtok (pg_wnout T))
theorem pg_wcoil (T : pg_T) : pg_W (pg_coil T) := pg_wnode (pg_wseq pg_wtok (pg_wseq (pg_wname T) pg_wtok))
theorem pg_wcell (T : pg_T) : pg_W (pg_cell T) := pg_wite pg_wleaf (pg_wite pg_wleaf (pg_wite (pg_wcoil T) (pg_wcont T)))
theorem pg_wcells (T : pg_T) : ∀ n, pg_W (pg_cells T n)
  | 0 => pg_wnil
  | n + 1 => pg_wseq (pg_wcell T) (pg_wite (pg_wseq pg_wleaf (pg_wcells T n)) (pg_wite (pg_wcells T n) pg_wnil))
theorem pg_wrow (T : pg_T) : pg_W (pg_row T) := pg_wnode (pg_wseq (pg_wcells T pg_M) pg_wtok)
theorem pg_wrung (T : pg_T) : pg_W (pg_rung T) := pg_wnode (pg_wseq pg_wtok (pg_wseq (pg_wrow T) (pg_wseq (pg_wwhl (pg_wrow T) pg_M) pg_wtok)))
theorem pg_wladd (T : pg_T) : pg_W (pg_ladd T) := pg_wnode (pg_wseq pg_wtok (pg_wseq (pg_wwhl (pg_wrung T) pg_M) pg_wtok))
theorem pg_wblock (T : pg_T) : pg_W (pg_block T) := fun c => pg_wnode (pg_wseq pg_wtok (pg_wseq (by by_cases h : pg_is T 0 c = true; (rw [if_pos h]; exact pg_wseq pg_wtok (pg_wsimple T)); (rw [if_neg h]; exact pg_wnil)) (pg_wseq (pg_wwhl (pg_wsect T) pg_M) (pg_wseq (pg_wite (pg_wladd T) (pg_wbody (pg_wB T 100))) pg_wtok)))) c
theorem pg_wtext (T : pg_T) : pg_W (pg_text T) := pg_wnode (pg_wwhl (pg_wblock T) pg_M)

/-! THE HEAP OF NODES: children as lists -/
def hp_oi : Option Nat → Int32
  | some c => nI c
  | none => -1
theorem hp_inj {a b : Nat} (ha : a < 2 ^ 31) (hb : b < 2 ^ 31) (h : nI a = nI b) : a = b := by
  have := congrArg Int32.toInt h
  unfold nI at this
  rw [Int32.toInt_ofNat_of_lt (by omega), Int32.toInt_ofNat_of_lt (by omega)] at this
  omega
theorem hp_ne {a : Nat} (ha : a < 2 ^ 31) : nI a ≠ -1 := by
  intro h
  have := congrArg Int32.toInt h
  unfold nI at this
  rw [Int32.toInt_ofNat_of_lt (by omega)] at this
  have e : (-1 : Int32).toInt = -1 := rfl
  omega
def hp_I (F L X P : Nat → Int32) (n : Nat) (K : Nat → List Nat) : Prop :=
  (∀ a, a < n → F a = hp_oi (K a).head? ∧ L a = hp_oi (K a).getLast?) ∧
  (∀ a, a < n → ∀ (j c : Nat), (K a)[j]? = some c → c < n ∧ P c = nI a ∧ X c = hp_oi (K a)[j + 1]?) ∧
  (∀ c, c < n → (∀ a, a < n → c ∉ K a) → P c = -1 ∧ X c = -1)
def hp_k (K : Nat → List Nat) (a : Nat) (l : List Nat) : Nat → List Nat := fun b => if b = a then l else K b
theorem hp_ke {K : Nat → List Nat} {a : Nat} {l : List Nat} : hp_k K a l a = l := if_pos rfl
theorem hp_kn {K : Nat → List Nat} {a b : Nat} {l : List Nat} (h : b ≠ a) : hp_k K a l b = K b := if_neg h
/-- a new node -/
theorem hp_mk {F L X P F' L' X' P' : Nat → Int32} {n : Nat} {K : Nat → List Nat} (h : hp_I F L X P n K) (hF : ∀ a, F' a = if a = n then -1 else F a) (hL : ∀ a, L' a = if a = n then -1 else L a) (hX : ∀ a, X' a = if a = n then -1 else X a) (hP : ∀ a, P' a = if a = n then -1 else P a) : hp_I F' L' X' P' (n + 1) (hp_k K n []) := by
  obtain ⟨h1, h2, h3⟩ := h
  refine ⟨fun a ha => ?_, fun a ha j c hc => ?_, fun c hc hno => ?_⟩
  · by_cases q : a = n
    · rw [hF, hL, if_pos q, if_pos q, q, hp_ke]; exact ⟨rfl, rfl⟩
    · rw [hF, hL, if_neg q, if_neg q, hp_kn q]; exact h1 a (by omega)
  · by_cases q : a = n
    · rw [q, hp_ke] at hc; simp at hc
    · rw [hp_kn q] at hc ⊢
      obtain ⟨g1, g2, g3⟩ := h2 a (by omega) j c hc
      rw [hP, hX, if_neg (by omega), if_neg (by omega)]
      exact ⟨by omega, g2, g3⟩
  · by_cases q : c = n
    · rw [hP, hX, if_pos q, if_pos q]; exact ⟨rfl, rfl⟩
    · rw [hP, hX, if_neg q, if_neg q]
      refine h3 c (by omega) (fun a ha hm => ?_)
      have := hno a (by omega)
      rw [hp_kn (by omega)] at this
      exact this hm
/-- a child more -/
theorem hp_ad {F L X P F' L' X' P' : Nat → Int32} {n to c : Nat} {K : Nat → List Nat} (hn : n < 2 ^ 30) (h : hp_I F L X P n K) (ht : to < n) (hc : c < n) (hno : ∀ a, a < n → c ∉ K a)
    (hF : ∀ a, F' a = if a = to ∧ K to = [] then nI c else F a) (hX : ∀ a, X' a = if some a = (K to).getLast? then nI c else X a) (hL : ∀ a, L' a = if a = to then nI c else L a) (hP : ∀ a, P' a = if a = c then nI to else P a) : hp_I F' L' X' P' n (hp_k K to (K to ++ [c])) := by
  obtain ⟨h1, h2, h3⟩ := h
  have last : ∀ e, (K to).getLast? = some e → e < n ∧ P e = nI to ∧ X e = -1 := fun e he => by
    rw [List.getLast?_eq_getElem?] at he
    obtain ⟨g1, g2, g3⟩ := h2 to ht _ e he
    refine ⟨g1, g2, ?_⟩
    rw [g3, List.getElem?_eq_none (by omega)]
    rfl
  refine ⟨fun a ha => ?_, fun a ha j d hd => ?_, fun d hd hno' => ?_⟩
  · by_cases q : a = to
    · subst q
      rw [hF, hL, if_pos rfl, hp_ke]
      refine ⟨?_, by rw [List.getLast?_append]; rfl⟩
      cases e : K a with
      | nil => rw [if_pos ⟨rfl, rfl⟩]; rfl
      | cons x l => rw [if_neg (by rintro ⟨_, z⟩; cases z), (h1 a ha).1, e]; rfl
    · rw [hF, hL, if_neg (fun z => q z.1), if_neg q, hp_kn q]; exact h1 a ha
  · by_cases q : a = to
    · subst q
      rw [hp_ke] at hd ⊢
      by_cases w : j < (K a).length
      · rw [List.getElem?_append_left w] at hd
        obtain ⟨g1, g2, g3⟩ := h2 a ha j d hd
        have hdc : d ≠ c := fun z => hno a ha (z ▸ List.mem_of_getElem? hd)
        rw [hP, if_neg hdc, hX]
        refine ⟨g1, g2, ?_⟩
        by_cases u : j + 1 < (K a).length
        · rw [if_neg, g3, List.getElem?_append_left u]
          intro z
          have := (last d z.symm).2.2
          rw [g3, List.getElem?_eq_getElem u] at this
          have g4 := (h2 a ha (j + 1) _ (List.getElem?_eq_getElem u)).1
          exact hp_ne (by omega) this
        · have e : (K a).getLast? = some d := by rw [List.getLast?_eq_getElem?, show (K a).length - 1 = j by omega]; exact hd
          rw [if_pos e.symm, List.getElem?_append_right (by omega), show j + 1 - (K a).length = 0 by omega]
          rfl
      · rw [List.getElem?_append_right (by omega)] at hd
        have e0 : j - (K a).length = 0 := by
          rcases Nat.eq_zero_or_pos (j - (K a).length) with z | z
          · exact z
          · rw [List.getElem?_eq_none (by rw [List.length_singleton]; omega)] at hd; cases hd
        rw [e0] at hd
        cases hd
        rw [hP, if_pos rfl, hX, if_neg]
        · refine ⟨hc, rfl, ?_⟩
          rw [(h3 c hc hno).2, List.getElem?_eq_none (by rw [List.length_append, List.length_singleton]; omega)]
          rfl
        · intro z
          exact hno a ha (List.mem_of_getLast? z.symm)
    · rw [hp_kn q] at hd ⊢
      obtain ⟨g1, g2, g3⟩ := h2 a ha j d hd
      have hdc : d ≠ c := fun z => hno a ha (z ▸ List.mem_of_getElem? hd)
      rw [hP, if_neg hdc, hX, if_neg]
      · exact ⟨g1, g2, g3⟩
      · intro z
        have := (last d z.symm).2.1
        rw [g2] at this
        exact q (hp_inj (by omega) (by omega) this)
  · have hdc : d ≠ c := fun z => hno' to ht (by rw [hp_ke, z]; exact List.mem_append_right _ (List.mem_singleton.mpr rfl))
    have hm : ∀ a, a < n → d ∉ K a := fun a ha z => by
      by_cases q : a = to
      · exact hno' a ha (by rw [q, hp_ke]; exact List.mem_append_left _ (q ▸ z))
      · exact hno' a ha (by rw [hp_kn q]; exact z)
    obtain ⟨g1, g2⟩ := h3 d hd hm
    rw [hP, if_neg hdc, hX, if_neg]
    · exact ⟨g1, g2⟩
    · intro z
      exact hm to ht (List.mem_of_getLast? z.symm)
/-! nodes with their numbers in the heap -/
abbrev hp_N := pg_N × Nat
def hp_sz (x : hp_N) : Nat := x.1.2.2.2
def hp_tF : Nat → List hp_N → List Nat
  | 0, _ => []
  | _ + 1, [] => []
  | n + 1, x :: l => x.2 :: hp_tF n (l.drop (hp_sz x - 1))
def hp_t (l : List hp_N) : List Nat := hp_tF l.length l
theorem hp_tF_s : ∀ (n : Nat) (l : List hp_N), l.length ≤ n → hp_tF n l = hp_t l := by
  have key : ∀ (n m : Nat) (l : List hp_N), l.length ≤ n → l.length ≤ m → hp_tF n l = hp_tF m l := by
    intro n
    induction n with
    | zero =>
      intro m l h _
      cases l with
      | nil => cases m <;> rfl
      | cons x l => simp at h
    | succ n ih =>
      intro m l h h'
      cases l with
      | nil => cases m <;> rfl
      | cons x l =>
        cases m with
        | zero => simp at h'
        | succ m =>
          have h : l.length + 1 ≤ n + 1 := h
          have h' : l.length + 1 ≤ m + 1 := h'
          show x.2 :: _ = x.2 :: _
          rw [ih m (l.drop (hp_sz x - 1)) (by rw [List.length_drop]; omega) (by rw [List.length_drop]; omega)]
  exact fun n l h => key n l.length l h (Nat.le_refl _)
theorem hp_t_c (x : hp_N) (l : List hp_N) : hp_t (x :: l) = x.2 :: hp_t (l.drop (hp_sz x - 1)) := by
  show x.2 :: hp_tF l.length _ = _
  rw [hp_tF_s _ _ (by rw [List.length_drop]; omega)]
def hp_c (l : List hp_N) : Prop := ∀ (j : Nat) (x : hp_N), l[j]? = some x → 1 ≤ hp_sz x ∧ j + hp_sz x ≤ l.length
theorem hp_c_iff {l : List hp_N} : hp_c l ↔ tz_c (l.map (·.1)) := by
  constructor
  · intro h j x hx
    rw [List.getElem?_map] at hx
    cases e : l[j]? with
    | none => rw [e] at hx; cases hx
    | some y => rw [e] at hx; cases hx; rw [List.length_map]; exact h j y e
  · intro h j x hx
    have := h j x.1 (by rw [List.getElem?_map, hx]; rfl)
    rw [List.length_map] at this
    exact this
theorem hp_c_tail {x : hp_N} {l : List hp_N} (h : hp_c (x :: l)) : hp_c l ∧ hp_sz x - 1 ≤ l.length ∧ 1 ≤ hp_sz x := by
  have h0 := h 0 x rfl
  rw [List.length_cons] at h0
  refine ⟨fun j y hy => ?_, by omega, h0.1⟩
  have := h (j + 1) y (by rw [List.getElem?_cons_succ]; exact hy)
  rw [List.length_cons] at this
  omega
theorem hp_c_drop {l : List hp_N} (h : hp_c l) (k : Nat) : hp_c (l.drop k) := by
  intro j x hx
  rw [List.getElem?_drop] at hx
  have := h _ x hx
  have hl : k + j < l.length := by
    rcases Nat.lt_or_ge (k + j) l.length with z | z
    · exact z
    · rw [List.getElem?_eq_none z] at hx; cases hx
  rw [List.length_drop]
  omega
theorem hp_t_a : ∀ (n : Nat) (l m : List hp_N), l.length ≤ n → hp_c l → hp_t (l ++ m) = hp_t l ++ hp_t m := by
  intro n
  induction n with
  | zero =>
    intro l m h _
    cases l with
    | nil => rfl
    | cons x l => simp at h
  | succ n ih =>
    intro l m h hc
    cases l with
    | nil => rfl
    | cons x l =>
      obtain ⟨c1, c2, c3⟩ := hp_c_tail hc
      have h : l.length + 1 ≤ n + 1 := h
      rw [List.cons_append, hp_t_c, hp_t_c, List.drop_append_of_le_length c2, ih (l.drop (hp_sz x - 1)) m (by rw [List.length_drop]; omega) (hp_c_drop c1 _)]
      rfl
theorem hp_ta {l m : List hp_N} (h : hp_c l) : hp_t (l ++ m) = hp_t l ++ hp_t m := hp_t_a l.length l m (Nat.le_refl _) h
theorem hp_tn {l : List hp_N} {x : hp_N} (h : hp_sz x = l.length + 1) : hp_t (x :: l) = [x.2] := by
  rw [hp_t_c, h, Nat.add_sub_cancel, List.drop_length]
  rfl
/-- the nodes stand in the heap so -/
def hp_R (K : Nat → List Nat) (H : Nat → pg_N → Prop) (n : Nat) : List hp_N → Prop
  | [] => True
  | x :: l => (x.2 < n ∧ H x.2 x.1 ∧ K x.2 = hp_t (l.take (hp_sz x - 1))) ∧ hp_R K H n l
theorem hp_Ra {K : Nat → List Nat} {H : Nat → pg_N → Prop} {n : Nat} {m : List hp_N} : ∀ {l : List hp_N}, hp_c l → (hp_R K H n (l ++ m) ↔ hp_R K H n l ∧ hp_R K H n m)
  | [], _ => ⟨fun h => ⟨trivial, h⟩, fun h => h.2⟩
  | x :: l, hc => by
    obtain ⟨c1, c2, c3⟩ := hp_c_tail hc
    have ih := hp_Ra (K := K) (H := H) (n := n) (m := m) c1
    rw [List.cons_append]
    show (x.2 < n ∧ H x.2 x.1 ∧ K x.2 = hp_t ((l ++ m).take (hp_sz x - 1))) ∧ hp_R K H n (l ++ m) ↔ ((x.2 < n ∧ H x.2 x.1 ∧ K x.2 = hp_t (l.take (hp_sz x - 1))) ∧ hp_R K H n l) ∧ hp_R K H n m
    rw [List.take_append_of_le_length c2, ih]
    exact ⟨fun h => ⟨⟨h.1, h.2.1⟩, h.2.2⟩, fun h => ⟨h.1.1, h.1.2, h.2⟩⟩
theorem hp_Rm {K K' : Nat → List Nat} {H H' : Nat → pg_N → Prop} {n n' : Nat} (hn : n ≤ n') : ∀ {l : List hp_N}, (∀ x ∈ l, x.2 < n → K' x.2 = K x.2 ∧ ∀ h, H x.2 h → H' x.2 h) → hp_R K H n l → hp_R K' H' n' l
  | [], _, _ => trivial
  | x :: l, hk, ⟨⟨h1, h2, h3⟩, h4⟩ => by
    obtain ⟨k1, k2⟩ := hk x (List.mem_cons_self ..) h1
    exact ⟨⟨by omega, k2 _ h2, k1.trans h3⟩, hp_Rm hn (fun y hy => hk y (List.mem_cons_of_mem _ hy)) h4⟩
/-- from one heap to a later one: below `to` came the trees l -/
def hp_E (n : Nat) (K : Nat → List Nat) (H : Nat → pg_N → Prop) (n' : Nat) (K' : Nat → List Nat) (H' : Nat → pg_N → Prop) (to : Nat) (l : List hp_N) : Prop :=
  n ≤ n' ∧ (∀ a, a < n → a ≠ to → K' a = K a) ∧ K' to = K to ++ hp_t l ∧ (∀ a, a < n → ∀ h, H a h → H' a h) ∧ hp_R K' H' n' l ∧ (∀ x ∈ l, n ≤ x.2) ∧ hp_c l
theorem hp_Er {n to : Nat} {K : Nat → List Nat} {H : Nat → pg_N → Prop} : hp_E n K H n K H to [] := ⟨Nat.le_refl _, fun _ _ _ => rfl, (List.append_nil _).symm, fun _ _ _ h => h, trivial, fun x hx => absurd hx List.not_mem_nil, fun j x h => (by simp at h)⟩
theorem hp_ca {l m : List hp_N} (hl : hp_c l) (hm : hp_c m) : hp_c (l ++ m) := by
  intro j x h
  by_cases q : j < l.length
  · rw [List.getElem?_append_left q] at h
    have := hl j x h
    rw [List.length_append]; omega
  · rw [List.getElem?_append_right (by omega)] at h
    have := hm _ x h
    rw [List.length_append]; omega
theorem hp_cn {l : List hp_N} {x : hp_N} (hl : hp_c l) (h : hp_sz x = l.length + 1) : hp_c (x :: l) := by
  intro j y hy
  cases j with
  | zero =>
    rw [List.getElem?_cons_zero] at hy
    cases hy
    rw [List.length_cons, h]
    exact ⟨Nat.succ_pos _, Nat.le_of_eq (Nat.zero_add _)⟩
  | succ j =>
    rw [List.getElem?_cons_succ] at hy
    have := hl j y hy
    rw [List.length_cons]; omega
theorem hp_Et {n n1 n2 to : Nat} {K K1 K2 : Nat → List Nat} {H H1 H2 : Nat → pg_N → Prop} {l m : List hp_N} (ht : to < n) (h1 : hp_E n K H n1 K1 H1 to l) (h2 : hp_E n1 K1 H1 n2 K2 H2 to m) : hp_E n K H n2 K2 H2 to (l ++ m) := by
  obtain ⟨a1, a2, a3, a4, a5, a6, a7⟩ := h1
  obtain ⟨b1, b2, b3, b4, b5, b6, b7⟩ := h2
  refine ⟨by omega, fun a ha hne => (b2 a (by omega) hne).trans (a2 a ha hne), ?_, fun a ha h q => b4 a (by omega) h (a4 a ha h q), (hp_Ra a7).mpr ⟨hp_Rm b1 (fun x hx hxn => ⟨b2 x.2 hxn ?_, b4 x.2 hxn⟩) a5, b5⟩, fun x hx => ?_, hp_ca a7 b7⟩
  · rw [b3, a3, hp_ta a7, List.append_assoc]
  · have := a6 x hx
    omega
  · rcases List.mem_append.mp hx with q | q
    · exact a6 x q
    · have := b6 x q
      omega
/-- a node with its children, put below `to` at once -/
theorem hp_En {n n2 to : Nat} {K K1 K2 : Nat → List Nat} {H H1 H2 : Nat → pg_N → Prop} {l : List hp_N} {x : pg_N} (ht : to < n) (hk : ∀ a, a < n → K1 a = if a = to then K to ++ [n] else K a) (hk' : K1 n = []) (hh : ∀ a, a < n → ∀ h, H a h → H1 a h) (h2 : hp_E (n + 1) K1 H1 n2 K2 H2 n l) (hs : x.2.2.2 = l.length + 1) (hx : H2 n x) : hp_E n K H n2 K2 H2 to ((x, n) :: l) := by
  obtain ⟨b1, b2, b3, b4, b5, b6, b7⟩ := h2
  refine ⟨by omega, fun a ha hne => ?_, ?_, fun a ha h q => b4 a (by omega) h (hh a ha h q), ⟨⟨by show n < n2; omega, hx, ?_⟩, b5⟩, fun y hy => ?_, hp_cn b7 hs⟩
  · rw [b2 a (by omega) (by omega), hk a ha, if_neg hne]
  · rw [b2 to (by omega) (by omega), hk to ht, if_pos rfl, hp_tn (x := (x, n)) hs]
  · show K2 n = hp_t (l.take (x.2.2.2 - 1))
    rw [hs, Nat.add_sub_cancel, List.take_length, b3, hk']
    rfl
  · rcases List.mem_cons.mp hy with q | q
    · rw [q]; exact Nat.le_refl _
    · have := b6 y q
      omega
