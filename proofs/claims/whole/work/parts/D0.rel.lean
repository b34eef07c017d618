/-! THE REFERENCE'S RULES: what its state says. a: the number of a node; R: names of the class and of the reference -/
def rr_c (σ : pm_S) : Prop := ∃ c, c ≤ 409 ∧ σ.1 10 35 = nI c
def rr_F (σ0 σ : pm_S) : Prop := (∀ x b, (x = 10 ∧ (b = 7 ∨ b = 35 ∨ b = 41 ∨ b = 48 ∨ b = 49)) ∨ σ.1 x b = σ0.1 x b) ∧ σ.2.1 = σ0.2.1 ∧ (∀ k, (56 ≤ k ∧ k ≤ 58) ∨ (64 ≤ k ∧ k ≤ 74) ∨ σ.2.2 k = σ0.2.2 k) ∧ rr_c σ
def rs_R (R : Int32 → Int32 → Prop) (σ : pm_S) : Prop := (∀ v r v' r', R v r → R v' r' → (v = v' ↔ r = r')) ∧ ∀ v r, R v r → 0 ≤ v.toInt ∧ 0 ≤ r.toInt ∧ r.toInt < 4200 ∧ nq_x (σ.2.1 47 r.toNatClampNeg) v.toNatClampNeg
def rs_T (l : List pg_N) (a : Nat → Nat) (R : Int32 → Int32 → Prop) (σ : pm_S) : Prop := a 0 = 0 ∧ (∀ i j, i < l.length → j < l.length → a i = a j → i = j) ∧
  (∀ i, i < l.length → a i < 20000 ∧ σ.2.2 49 (a i) = nI (rl_k l i) ∧ σ.2.2 50 (a i) = nI (rl_x l i).2.1 ∧ (if rp_nk (rl_k l i) = true then R (rl_v l i) (σ.2.2 51 (a i)) else σ.2.2 51 (a i) = rl_v l i) ∧
    σ.2.2 52 (a i) = hp_oi ((rl_c l i).head?.map a) ∧ σ.2.2 53 (a i) = hp_oi ((rl_c l i).getLast?.map a) ∧
    ∀ (q c : Nat), (rl_c l i)[q]? = some c → σ.2.2 55 (a c) = nI (a i) ∧ σ.2.2 54 (a c) = hp_oi ((rl_c l i)[q + 1]?.map a)) ∧
  σ.2.2 55 0 = -1 ∧ σ.2.2 54 0 = -1
/-- all variables, the oldest first -/
def rv_L : List rl_B → List rl_V
  | [] => []
  | b :: r => rv_L r ++ b.2.2.2.2.reverse
def rv_fr (B : List rl_B) (b : Nat) : Nat := (rv_L (B.drop (B.length - b))).length
def rv_q (q : Nat) : Int32 := if q < 9 then nI (10100 + q) else nI (q - 9)
def rv_t (v : rl_V) : Int32 := if v.2.1 = 2 then rv_q v.2.2.1.toNatClampNeg else v.2.2.1
def rv_at (R : Int32 → Int32 → Prop) (σ : pm_S) (i : Nat) (v : rl_V) : Prop := R v.1 (σ.2.2 69 i) ∧ (v.2.1 ≠ 3 → σ.2.2 70 i = nI v.2.1 ∧ σ.2.2 71 i = rv_t v ∧ σ.2.2 72 i = nI v.2.2.2.1 ∧ σ.2.2 73 i = v.2.2.2.2.1 ∧ σ.2.2 74 i = nI v.2.2.2.2.2) ∧ (v.2.1 = 3 → σ.2.2 72 i = 0 ∧ σ.2.2 73 i = -1)
def rv_I (R : Int32 → Int32 → Prop) (G : List rl_V) (σ : pm_S) : Prop := G.length ≤ 4096 ∧ σ.1 10 41 = nI G.length ∧ ∀ i v, G[i]? = some v → rv_at R σ i v
def rb_at (a : Nat → Nat) (fl : Bool) (B : List rl_B) (σ : pm_S) (b : Nat) (y : rl_B) : Prop := σ.2.2 64 b = nI (a y.2.2.1) ∧ σ.2.2 65 b = nI (rv_fr B b) ∧ σ.2.2 66 b = nI (rv_fr B b + y.2.2.2.2.length) ∧ (fl = false ∨ b + 1 < B.length → σ.2.2 67 b = nI y.2.2.2.1)
def rb_I (l : List pg_N) (a : Nat → Nat) (fl : Bool) (B : List rl_B) (σ : pm_S) : Prop := B.length ≤ 409 ∧ σ.1 10 35 = nI B.length ∧ ∀ b y, rl_blk B b = some y → y.2.2.1 < l.length ∧ rl_k l y.2.2.1 = y.1 ∧ rl_v l y.2.2.1 = y.2.1 ∧ rb_at a fl B σ b y
/-- cells that are given as the block ends: of its current block -/
def rr_sc (l : List pg_N) (i : Nat) : Prop := rl_k l i = 16 ∨ (rl_k l i = 25 ∧ 2 ≤ (rl_v l i).toInt)
def rr_in (l : List pg_N) (B : List rl_B) (i : Nat) : Prop := (rl_hd B).2.2.1 ≤ i ∧ i < (rl_hd B).2.2.1 + rl_z l (rl_hd B).2.2.1
def rr_D (l : List pg_N) (a : Nat → Nat) (fl : Bool) (A : rl_A) (σ : pm_S) : Prop := ∀ i, i < l.length → σ.2.2 56 (a i) = A.2.1 i ∧ (¬ (fl = true ∧ rr_in l A.1 i ∧ rr_sc l i) → σ.2.2 57 (a i) = A.2.2.1 i) ∧ (¬ (fl = true ∧ rr_in l A.1 i ∧ rl_k l i = 19) → σ.2.2 58 (a i) = A.2.2.2 i)
def rr_I (l : List pg_N) (a : Nat → Nat) (R : Int32 → Int32 → Prop) (σ0 σ : pm_S) (fl : Bool) (u : Nat) (A : rl_A) : Prop := rs_R R σ0 ∧ rs_T l a R σ0 ∧ rr_F σ0 σ ∧ rr_D l a fl A σ ∧ rb_I l a fl A.1 σ ∧ rv_I R (rv_L A.1) σ ∧ (fl = true → σ.1 10 48 = nI u)
/-! the static part, in any later state -/
theorem rs_Tf {l : List pg_N} {a : Nat → Nat} {R : Int32 → Int32 → Prop} {σ0 σ : pm_S} (h : rs_T l a R σ0) (f : rr_F σ0 σ) : rs_T l a R σ := by
  obtain ⟨h1, h2, h3, h4⟩ := h
  have g : ∀ k, 49 ≤ k → k ≤ 55 → σ.2.2 k = σ0.2.2 k := fun k q1 q2 => ((f.2.2.1 k).resolve_left (by omega)).resolve_left (by omega)
  refine ⟨h1, h2, fun i hi => ?_, ?_⟩
  · rw [g 49 (by omega) (by omega), g 50 (by omega) (by omega), g 51 (by omega) (by omega), g 52 (by omega) (by omega), g 53 (by omega) (by omega), g 54 (by omega) (by omega), g 55 (by omega) (by omega)]
    exact h3 i hi
  · rw [g 54 (by omega) (by omega), g 55 (by omega) (by omega)]; exact h4
theorem rs_Rf {R : Int32 → Int32 → Prop} {σ0 σ : pm_S} (h : rs_R R σ0) (f : rr_F σ0 σ) : rs_R R σ := by
  refine ⟨h.1, fun v r q => ?_⟩
  rw [f.2.1]; exact h.2 v r q
section RRG
variable {l : List pg_N} {a : Nat → Nat} {R : Int32 → Int32 → Prop} {σ : pm_S} {NN : Nat}
theorem rt_b (h : rs_T l a R σ) {i : Nat} (hi : i < l.length) : vp_in (nI (a i)) 20000 := vp_in_iff.mpr (by have := (h.2.2.1 i hi).1; rw [nI_toInt (by omega)]; omega)
theorem rt_c (h : rs_T l a R σ) {i : Nat} (hi : i < l.length) : (nI (a i)).toNatClampNeg = a i := nI_clamp (by have := (h.2.2.1 i hi).1; omega)
theorem rt_k (h : rs_T l a R σ) {i : Nat} (hi : i < l.length) : σ.2.2 49 (nI (a i)).toNatClampNeg = nI (rl_k l i) := by rw [rt_c h hi]; exact (h.2.2.1 i hi).2.1
theorem rt_p (h : rs_T l a R σ) {i : Nat} (hi : i < l.length) : σ.2.2 50 (nI (a i)).toNatClampNeg = nI (rl_x l i).2.1 := by rw [rt_c h hi]; exact (h.2.2.1 i hi).2.2.1
theorem rt_v (h : rs_T l a R σ) {i : Nat} (hi : i < l.length) (hk : rp_nk (rl_k l i) = false) : σ.2.2 51 (nI (a i)).toNatClampNeg = rl_v l i := by
  rw [rt_c h hi]
  have := (h.2.2.1 i hi).2.2.2.1
  rw [if_neg (by rw [hk]; decide)] at this
  exact this
theorem rt_m (h : rs_T l a R σ) {i : Nat} (hi : i < l.length) : σ.2.2 51 (nI (a i)).toNatClampNeg = σ.2.2 51 (a i) := by rw [rt_c h hi]
theorem rt_R (h : rs_T l a R σ) {i : Nat} (hi : i < l.length) (hk : rp_nk (rl_k l i) = true) : R (rl_v l i) (σ.2.2 51 (a i)) := by
  have := (h.2.2.1 i hi).2.2.2.1
  rw [if_pos hk] at this
  exact this
/-- the first child -/
theorem rt_f (h : rs_T l a R σ) (hG : lg_G l NN) {i : Nat} (hi : i < l.length) : σ.2.2 52 (nI (a i)).toNatClampNeg = (if i + 1 < i + rl_z l i then nI (a (i + 1)) else -1) := by
  rw [rt_c h hi, (h.2.2.1 i hi).2.2.2.2.1]
  obtain ⟨z1, z2, z3⟩ := lg_cl hG hi
  by_cases q : i + 1 < i + rl_z l i
  · rw [if_pos q, rl_crow, rl_rowu z1 z3 q]; rfl
  · rw [if_neg q, rl_crow, rl_row0 q]; rfl
/-- the next one -/
theorem rl_nth {l : List pg_N} {NN p c : Nat} (hG : lg_G l NN) (hp : p < l.length) (hc : c ∈ rl_c l p) : ∃ q : Nat, (rl_c l p)[q]? = some c ∧ (rl_c l p)[q + 1]? = (if c + rl_z l c < p + rl_z l p then some (c + rl_z l c) else none) := by
  obtain ⟨z1, z2, z3⟩ := lg_cl hG hp
  have key : ∀ (n s : Nat), p + rl_z l p - s ≤ n → rl_cl l s (p + rl_z l p) → c ∈ rl_row l s (p + rl_z l p) → ∃ q : Nat, (rl_row l s (p + rl_z l p))[q]? = some c ∧ (rl_row l s (p + rl_z l p))[q + 1]? = (if c + rl_z l c < p + rl_z l p then some (c + rl_z l c) else none) := by
    intro n
    induction n with
    | zero =>
      intro s hn hc' hm
      rw [rl_row0 (by omega)] at hm
      exact absurd hm List.not_mem_nil
    | succ n ih =>
      intro s hn hc' hm
      by_cases q : s < p + rl_z l p
      · obtain ⟨c1, c2, c3⟩ := rl_clz hc' q
        have er := rl_rowu z1 hc' q
        rw [er] at hm
        by_cases w : c = s
        · subst w
          refine ⟨0, by rw [er]; rfl, ?_⟩
          rw [er]
          show (rl_row l (c + rl_z l c) (p + rl_z l p))[0]? = _
          by_cases u : c + rl_z l c < p + rl_z l p
          · rw [if_pos u, rl_rowu z1 c3 u]; rfl
          · rw [if_neg u, rl_row0 u]; rfl
        · obtain ⟨k, k1, k2⟩ := ih (s + rl_z l s) (by omega) c3 ((List.mem_cons.mp hm).resolve_left w)
          exact ⟨k + 1, by rw [er, List.getElem?_cons_succ]; exact k1, by rw [er, List.getElem?_cons_succ]; exact k2⟩
      · rw [rl_row0 q] at hm
        exact absurd hm List.not_mem_nil
  exact key _ _ (Nat.le_refl _) z3 hc
theorem rt_n (h : rs_T l a R σ) (hG : lg_G l NN) {p c : Nat} (hp : p < l.length) (hc : c ∈ rl_c l p) : σ.2.2 54 (nI (a c)).toNatClampNeg = (if c + rl_z l c < p + rl_z l p then nI (a (c + rl_z l c)) else -1) := by
  have cl : c < l.length := by have := rl_cm hc; have := (rl_zc hG.1 hp).2; omega
  obtain ⟨q, q1, q2⟩ := rl_nth hG hp hc
  rw [rt_c h cl, ((h.2.2.1 p hp).2.2.2.2.2.2 q c q1).2, q2]
  by_cases u : c + rl_z l c < p + rl_z l p
  · rw [if_pos u, if_pos u]; rfl
  · rw [if_neg u, if_neg u]; rfl
theorem rt_q (h : rs_T l a R σ) (hG : lg_G l NN) {c : Nat} (hc : c < l.length) : σ.2.2 55 (nI (a c)).toNatClampNeg = (if c = 0 then -1 else nI (a (rl_par l c))) := by
  rw [rt_c h hc]
  by_cases w : c = 0
  · rw [if_pos w, w, h.1]; exact h.2.2.2.1
  · rw [if_neg w]
    obtain ⟨p1, p2, _⟩ := lg_par hG hc (by omega)
    obtain ⟨q, q1, _⟩ := rl_nth hG (show rl_par l c < l.length by omega) p2
    exact ((h.2.2.1 _ (by omega)).2.2.2.2.2.2 q c q1).1
end RRG
theorem rr_T {l : List pg_N} {a : Nat → Nat} {R : Int32 → Int32 → Prop} {σ0 σ : pm_S} {fl : Bool} {u : Nat} {A : rl_A} (h : rr_I l a R σ0 σ fl u A) : rs_T l a R σ := rs_Tf h.2.1 h.2.2.1
theorem rr_R {l : List pg_N} {a : Nat → Nat} {R : Int32 → Int32 → Prop} {σ0 σ : pm_S} {fl : Bool} {u : Nat} {A : rl_A} (h : rr_I l a R σ0 σ fl u A) : rs_R R σ := rs_Rf h.1 h.2.2.1
theorem rt_t {l : List pg_N} {a : Nat → Nat} {R : Int32 → Int32 → Prop} {σ0 σ : pm_S} {fl : Bool} {u : Nat} {A : rl_A} (h : rr_I l a R σ0 σ fl u A) {i : Nat} (hi : i < l.length) : σ.2.2 56 (nI (a i)).toNatClampNeg = A.2.1 i := by
  rw [rt_c (rr_T h) hi]; exact (h.2.2.2.1 i hi).1
/-- moves of the frame -/
theorem rr_pi {σ0 σ : pm_S} {b : Nat} {x : Int32} (h : rr_F σ0 σ) (hb : b = 7 ∨ b = 41 ∨ b = 48 ∨ b = 49) : rr_F σ0 (pm_pi σ 10 b x) := by
  have E : ∀ x' b', ¬ (x' = 10 ∧ b' = b) → (pm_pi σ 10 b x).1 x' b' = σ.1 x' b' := fun x' b' q => by
    unfold pm_pi
    by_cases q1 : x' = 10
    · by_cases q2 : b' = b
      · exact absurd ⟨q1, q2⟩ q
      · simp [q1, q2]
    · simp [q1]
  refine ⟨fun x' b' => ?_, h.2.1, h.2.2.1, ?_⟩
  · by_cases q : x' = 10 ∧ b' = b
    · obtain ⟨rfl, rfl⟩ := q; exact Or.inl ⟨rfl, by omega⟩
    · rw [E x' b' q]; exact h.1 x' b'
  · obtain ⟨c, c1, c2⟩ := h.2.2.2
    exact ⟨c, c1, (E 10 35 (fun z => by omega)).trans c2⟩
theorem rr_pi35 {σ0 σ : pm_S} {c : Nat} (h : rr_F σ0 σ) (hc : c ≤ 409) : rr_F σ0 (pm_pi σ 10 35 (nI c)) := by
  refine ⟨fun x' b' => ?_, h.2.1, h.2.2.1, c, hc, rfl⟩
  by_cases q : x' = 10 ∧ b' = 35
  · obtain ⟨rfl, rfl⟩ := q; exact Or.inl ⟨rfl, by omega⟩
  · have e : (pm_pi σ 10 35 (nI c)).1 x' b' = σ.1 x' b' := by
      unfold pm_pi
      by_cases q1 : x' = 10
      · by_cases q2 : b' = 35
        · exact absurd ⟨q1, q2⟩ q
        · simp [q1, q2]
      · simp [q1]
    rw [e]; exact h.1 x' b'
theorem rr_pr {σ0 σ : pm_S} {k : Nat} {f : Nat → Int32} (h : rr_F σ0 σ) (hk : (56 ≤ k ∧ k ≤ 58) ∨ (64 ≤ k ∧ k ≤ 74)) : rr_F σ0 (pm_pr σ k f) := by
  refine ⟨h.1, h.2.1, fun k' => ?_, h.2.2.2⟩
  by_cases q : k' = k
  · rw [q]
    rcases hk with w | w
    · exact Or.inl w
    · exact Or.inr (Or.inl w)
  · rw [pm_rne q]; exact h.2.2.1 k'
/-- what the parts look at -/
theorem rb_x {l : List pg_N} {a : Nat → Nat} {fl : Bool} {B : List rl_B} {σ τ : pm_S} (h : rb_I l a fl B σ) (e : ∀ q, 64 ≤ q → q ≤ 67 → τ.2.2 q = σ.2.2 q) (e35 : τ.1 10 35 = σ.1 10 35) : rb_I l a fl B τ := by
  obtain ⟨h1, h2, h3⟩ := h
  refine ⟨h1, e35.trans h2, fun b y hb => ?_⟩
  obtain ⟨g1, g2, g3, g4⟩ := h3 b y hb
  refine ⟨g1, g2, g3, ?_⟩
  unfold rb_at at *
  rw [e 64 (by omega) (by omega), e 65 (by omega) (by omega), e 66 (by omega) (by omega), e 67 (by omega) (by omega)]
  exact g4
theorem rv_x {R : Int32 → Int32 → Prop} {G : List rl_V} {σ τ : pm_S} (h : rv_I R G σ) (e : ∀ q, 69 ≤ q → q ≤ 74 → τ.2.2 q = σ.2.2 q) (e41 : τ.1 10 41 = σ.1 10 41) : rv_I R G τ := by
  obtain ⟨h1, h2, h3⟩ := h
  refine ⟨h1, e41.trans h2, fun i v hv => ?_⟩
  have := h3 i v hv
  unfold rv_at at *
  rw [e 69 (by omega) (by omega), e 70 (by omega) (by omega), e 71 (by omega) (by omega), e 72 (by omega) (by omega), e 73 (by omega) (by omega), e 74 (by omega) (by omega)]
  exact this
/-- a type, a cell, a meaning is set -/
theorem rr_Ds {l : List pg_N} {a : Nat → Nat} {R : Int32 → Int32 → Prop} {σ0 σ : pm_S} {fl : Bool} {u : Nat} {A A' : rl_A} {k : Nat} {f : Nat → Int32} (h : rr_I l a R σ0 σ fl u A) (hk : 56 ≤ k ∧ k ≤ 58) (hA : A'.1 = A.1) (hD : rr_D l a fl A' (pm_pr σ k f)) : rr_I l a R σ0 (pm_pr σ k f) fl u A' := by
  obtain ⟨h0, h1, h2, h3, h4, h5, h6⟩ := h
  refine ⟨h0, h1, rr_pr h2 (Or.inl hk), hD, ?_, ?_, h6⟩
  · rw [hA]; exact rb_x h4 (fun q _ _ => pm_rne (by omega)) rfl
  · rw [hA]; exact rv_x h5 (fun q _ _ => pm_rne (by omega)) rfl
theorem rr_ty {l : List pg_N} {a : Nat → Nat} {R : Int32 → Int32 → Prop} {σ0 σ : pm_S} {fl : Bool} {u : Nat} {A : rl_A} (h : rr_I l a R σ0 σ fl u A) {i : Nat} (hi : i < l.length) (x : Int32) : rr_I l a R σ0 (pm_pr σ 56 (upd (σ.2.2 56) (nI (a i)).toNatClampNeg x)) fl u (rl_ty A i x) := by
  have inj := (rr_T h).2.1
  rw [rt_c (rr_T h) hi]
  refine rr_Ds h (by decide) rfl (fun j hj => ?_)
  obtain ⟨d1, d2, d3⟩ := h.2.2.2.1 j hj
  refine ⟨?_, fun z => by rw [pm_rne (by decide)]; exact d2 z, fun z => by rw [pm_rne (by decide)]; exact d3 z⟩
  rw [pm_req, upd_if]
  show _ = (if j = i then x else A.2.1 j)
  by_cases q : j = i
  · rw [if_pos (by rw [q]), if_pos q]
  · rw [if_neg (fun z => q (inj j i hj hi z)), if_neg q]; exact d1
theorem rr_ce {l : List pg_N} {a : Nat → Nat} {R : Int32 → Int32 → Prop} {σ0 σ : pm_S} {fl : Bool} {u : Nat} {A : rl_A} (h : rr_I l a R σ0 σ fl u A) {i : Nat} (hi : i < l.length) (x : Int32) : rr_I l a R σ0 (pm_pr σ 57 (upd (σ.2.2 57) (nI (a i)).toNatClampNeg x)) fl u (rl_ce A i x) := by
  have inj := (rr_T h).2.1
  rw [rt_c (rr_T h) hi]
  refine rr_Ds h (by decide) rfl (fun j hj => ?_)
  obtain ⟨d1, d2, d3⟩ := h.2.2.2.1 j hj
  refine ⟨by rw [pm_rne (by decide)]; exact d1, fun z => ?_, fun z => by rw [pm_rne (by decide)]; exact d3 z⟩
  rw [pm_req, upd_if]
  show _ = (if j = i then x else A.2.2.1 j)
  by_cases q : j = i
  · rw [if_pos (by rw [q]), if_pos q]
  · rw [if_neg (fun z => q (inj j i hj hi z)), if_neg q]; exact d2 z
theorem rr_me {l : List pg_N} {a : Nat → Nat} {R : Int32 → Int32 → Prop} {σ0 σ : pm_S} {fl : Bool} {u : Nat} {A : rl_A} (h : rr_I l a R σ0 σ fl u A) {i : Nat} (hi : i < l.length) (x : Int32) : rr_I l a R σ0 (pm_pr σ 58 (upd (σ.2.2 58) (nI (a i)).toNatClampNeg x)) fl u (rl_me A i x) := by
  have inj := (rr_T h).2.1
  rw [rt_c (rr_T h) hi]
  refine rr_Ds h (by decide) rfl (fun j hj => ?_)
  obtain ⟨d1, d2, d3⟩ := h.2.2.2.1 j hj
  refine ⟨by rw [pm_rne (by decide)]; exact d1, fun z => by rw [pm_rne (by decide)]; exact d2 z, fun z => ?_⟩
  rw [pm_req, upd_if]
  show _ = (if j = i then x else A.2.2.2 j)
  by_cases q : j = i
  · rw [if_pos (by rw [q]), if_pos q]
  · rw [if_neg (fun z => q (inj j i hj hi z)), if_neg q]; exact d3 z
