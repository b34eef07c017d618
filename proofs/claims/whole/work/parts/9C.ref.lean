/-! STATEMENTS: growth where the nest may change -/
def rp_Dw (σ σ' : pm_S) : Prop := (∀ a b, (a = 10 ∧ ((2 ≤ b ∧ b ≤ 9) ∨ b = 15 ∨ b = 27 ∨ b = 29 ∨ b = 30 ∨ b = 34)) ∨ σ'.1 a b = σ.1 a b) ∧ (∀ k, k = 47 ∨ σ'.2.1 k = σ.2.1 k) ∧ ∀ k, (44 ≤ k ∧ k ≤ 63) ∨ σ'.2.2 k = σ.2.2 k
theorem rp_Dwr {σ : pm_S} : rp_Dw σ σ := ⟨fun _ _ => Or.inr rfl, fun _ => Or.inr rfl, fun _ => Or.inr rfl⟩
theorem rp_Dwd {σ σ' : pm_S} (d : rp_D σ σ') : rp_Dw σ σ' := ⟨fun a b => by rcases d.1 a b with z | z; (left; omega); exact Or.inr z, d.2.1, fun k => by rcases d.2.2 k with z | z; (left; omega); exact Or.inr z⟩
theorem rp_Dwt {σ σ1 σ2 : pm_S} (h : rp_Dw σ σ1) (h2 : rp_Dw σ1 σ2) : rp_Dw σ σ2 := by
  refine ⟨fun a b => ?_, fun k => ?_, fun k => ?_⟩
  · rcases h2.1 a b with z | z
    · exact Or.inl z
    · rcases h.1 a b with y | y
      · exact Or.inl y
      · exact Or.inr (z.trans y)
  · rcases h2.2.1 k with z | z
    · exact Or.inl z
    · rcases h.2.1 k with y | y
      · exact Or.inl y
      · exact Or.inr (z.trans y)
  · rcases h2.2.2 k with z | z
    · exact Or.inl z
    · rcases h.2.2 k with y | y
      · exact Or.inl y
      · exact Or.inr (z.trans y)
def rp_Ww (σ : pm_S) (h : rp_H) (σ' : pm_S) (h' : rp_H) : Prop := rp_Dw σ σ' ∧ h.1 ≤ h'.1 ∧ (σ'.1 10 6 = 0 → σ.1 10 6 = 0) ∧ (∀ x, x < h.1 → rp_f h x → rp_f h' x)
def rp_Ew (t : Nat → Nat) (M n : Nat) (σ : pm_S) (h : rp_H) (σ' : pm_S) (h' : rp_H) (to : Nat) (l : List pg_N) : Prop :=
  rp_Ww σ h σ' h' ∧ (σ'.1 10 6 = 0 → h'.1 = h.1 + l.length ∧ ∃ L : List hp_N, L.map (·.1) = l ∧ hp_E h.1 h.2 (rp_h t M n σ) h'.1 h'.2 (rp_h t M n σ') to L)
theorem rp_Wwr {σ : pm_S} {h : rp_H} : rp_Ww σ h σ h := ⟨rp_Dwr, Nat.le_refl _, fun z => z, fun _ _ z => z⟩
theorem rp_Wwt {σ σ1 σ2 : pm_S} {h h1 h2 : rp_H} (a : rp_Ww σ h σ1 h1) (b : rp_Ww σ1 h1 σ2 h2) : rp_Ww σ h σ2 h2 := ⟨rp_Dwt a.1 b.1, Nat.le_trans a.2.1 b.2.1, fun z => a.2.2.1 (b.2.2.1 z), fun x hx hf => b.2.2.2 x (Nat.lt_of_lt_of_le hx a.2.1) (a.2.2.2 x hx hf)⟩
theorem rp_Eww {t : Nat → Nat} {M n : Nat} {σ σ' : pm_S} {h h' : rp_H} {to : Nat} {l : List pg_N} (e : rp_E t M n σ h σ' h' to l) : rp_Ew t M n σ h σ' h' to l := ⟨⟨rp_Dwd e.1, e.2.1, e.2.2.1, e.2.2.2.1⟩, e.2.2.2.2⟩
theorem rp_Ewr {t : Nat → Nat} {M n : Nat} {σ : pm_S} {h : rp_H} {to : Nat} : rp_Ew t M n σ h σ h to [] := ⟨rp_Wwr, fun _ => ⟨rfl, [], rfl, hp_Er⟩⟩
theorem rp_Ewt {t : Nat → Nat} {M n : Nat} {σ σ1 σ2 : pm_S} {h h1 h2 : rp_H} {to : Nat} {l l2 : List pg_N} (ht : to < h.1) (e1 : rp_Ew t M n σ h σ1 h1 to l) (e2 : rp_Ew t M n σ1 h1 σ2 h2 to l2) : rp_Ew t M n σ h σ2 h2 to (l ++ l2) := by
  refine ⟨rp_Wwt e1.1 e2.1, fun z => ?_⟩
  obtain ⟨c1, L1, c2, c3⟩ := e1.2 (e2.1.2.2.1 z)
  obtain ⟨d1, L2, d2, d3⟩ := e2.2 z
  exact ⟨by rw [List.length_append]; omega, L1 ++ L2, by rw [List.map_append, c2, d2], hp_Et ht c3 d3⟩
theorem rp_Ewl {t : Nat → Nat} {M n : Nat} {σ σ' : pm_S} {h h' : rp_H} {to : Nat} {l : List pg_N} (w : rp_Ww σ h σ' h') (hd : ¬ σ'.1 10 6 = 0) : rp_Ew t M n σ h σ' h' to l := ⟨w, fun z => absurd z hd⟩
theorem rp_Ewe {t : Nat → Nat} {M n : Nat} {σ σ' : pm_S} {h h' : rp_H} {to : Nat} {l l' : List pg_N} (e : rp_Ew t M n σ h σ' h' to l) (q : l = l') : rp_Ew t M n σ h σ' h' to l' := q ▸ e
theorem rp_Wwm {σ σ1 : pm_S} {h : rp_H} {to : Nat} {x y z : Int32} (ht : to < h.1) (m : rp_M σ h.1 σ1 x y z) : rp_Ww σ h σ1 (rp_in h to) := ⟨rp_Dwd m.1, Nat.le_succ _, m.2.1, fun w hw hf => rp_fa (h := rp_nw h) (Nat.lt_succ_of_lt ht) (by omega) (rp_fw hf)⟩
theorem rp_Mnw {t : Nat → Nat} {M n : Nat} {σ σ1 σ2 : pm_S} {h h2 : rp_H} {to k p : Nat} {x y z v : Int32} {l : List pg_N} (ht : to < h.1) (m : rp_M σ h.1 σ1 x y z) (e : rp_Ew t M n σ1 (rp_in h to) σ2 h2 h.1 l) (hy : σ2.1 10 6 = 0 → x = nI k ∧ y = nI p ∧ rp_V t M n k z v) : rp_Ew t M n σ h σ2 h2 to ((k, p, v, l.length + 1) :: l) := by
  refine ⟨rp_Wwt (rp_Wwm ht m) e.1, fun q => ?_⟩
  obtain ⟨g1, L, g2, g3⟩ := e.2 q
  obtain ⟨y1, y2, y3⟩ := hy q
  have g1 : h2.1 = h.1 + 1 + l.length := g1
  refine ⟨by rw [List.length_cons]; omega, ((k, p, v, l.length + 1), h.1) :: L, by rw [List.map_cons, g2], hp_En ht (fun a ha => ?_) ?_ (fun a ha q hq => rp_Mh m (by omega) hq) g3 (by rw [← g2, List.length_map]) (g3.2.2.2.1 h.1 (Nat.lt_succ_self _) _ ⟨m.2.2.1.1.trans y1, m.2.2.1.2.1.trans y2, by rw [m.2.2.1.2.2]; exact y3⟩)⟩
  · show hp_k (hp_k h.2 h.1 []) to (hp_k h.2 h.1 [] to ++ [h.1]) a = _
    rw [hp_kn (a := h.1) (b := to) (by omega)]
    by_cases q : a = to
    · rw [q, hp_ke, if_pos rfl]
    · rw [hp_kn q, if_neg q, hp_kn (by omega)]
  · show hp_k (hp_k h.2 h.1 []) to (hp_k h.2 h.1 [] to ++ [h.1]) h.1 = _
    rw [hp_kn (by omega), hp_ke]
/-- the nest -/
def xs_ps (σ : pm_S) (k : Nat) (w a b : Int32) : pm_S := pm_pi (pm_pr (pm_pr (pm_pr σ 61 (upd (σ.2.2 61) k w)) 62 (upd (σ.2.2 62) k a)) 63 (upd (σ.2.2 63) k b)) 10 34 (nI (k + 1))
/-- writes of the nest only -/
def xs_q (σ σ' : pm_S) : Prop := (∀ a b, (a = 10 ∧ b = 34) ∨ σ'.1 a b = σ.1 a b) ∧ σ'.2.1 = σ.2.1 ∧ ∀ k, (61 ≤ k ∧ k ≤ 63) ∨ σ'.2.2 k = σ.2.2 k
theorem xs_qp {σ : pm_S} {k : Nat} {w a b : Int32} : xs_q σ (xs_ps σ k w a b) := by
  refine ⟨fun x y => ?_, rfl, fun j => ?_⟩
  · by_cases h1 : x = 10
    · by_cases h2 : y = 34
      · exact Or.inl ⟨h1, h2⟩
      · right
        show (if x = 10 then (if y = 34 then nI (k + 1) else σ.1 x y) else σ.1 x y) = _
        rw [if_pos h1, if_neg h2]
    · right
      show (if x = 10 then (if y = 34 then nI (k + 1) else σ.1 x y) else σ.1 x y) = _
      rw [if_neg h1]
  · by_cases h1 : j = 61 ∨ j = 62 ∨ j = 63
    · left; omega
    · right
      show (pm_pr (pm_pr (pm_pr σ 61 _) 62 _) 63 _).2.2 j = _
      rw [pm_rne (by omega), pm_rne (by omega), pm_rne (by omega)]
theorem xs_qi {σ : pm_S} {x : Int32} : xs_q σ (pm_pi σ 10 34 x) := by
  refine ⟨fun a b => ?_, rfl, fun j => Or.inr rfl⟩
  by_cases h1 : a = 10
  · by_cases h2 : b = 34
    · exact Or.inl ⟨h1, h2⟩
    · right
      show (if a = 10 then (if b = 34 then x else σ.1 a b) else σ.1 a b) = _
      rw [if_pos h1, if_neg h2]
  · right
    show (if a = 10 then (if b = 34 then x else σ.1 a b) else σ.1 a b) = _
    rw [if_neg h1]
theorem xs_Sq {t : Nat → Nat} {M n : Nat} {σ σ' : pm_S} {c : pg_C} {h : rp_H} {s : Nat} (q : xs_q σ σ') (hS : rp_S t M n σ c h s) : rp_S t M n σ' c h s := by
  refine ⟨rp_Tm hS.1 (fun b hb => (q.1 10 b).resolve_left (by omega)) q.2.1 (fun k hk => (q.2.2 k).resolve_left (by omega)), ?_, hS.2.2⟩
  obtain ⟨k1, k2, k3, k4⟩ := hS.2.1
  refine ⟨((q.1 10 15).resolve_left (by omega)).trans k1, k2, ?_, ?_⟩
  · rw [(q.2.2 52).resolve_left (by omega), (q.2.2 53).resolve_left (by omega), (q.2.2 54).resolve_left (by omega), (q.2.2 55).resolve_left (by omega)]; exact k3
  · rw [(q.2.2 56).resolve_left (by omega), (q.2.2 57).resolve_left (by omega), (q.2.2 58).resolve_left (by omega)]; exact k4
theorem xs_Eq {t : Nat → Nat} {M n : Nat} {σ σ' : pm_S} {h : rp_H} {to : Nat} (q : xs_q σ σ') : rp_Ew t M n σ h σ' h to [] := by
  refine ⟨⟨⟨fun a b => ?_, fun k => Or.inr (by rw [q.2.1]), fun k => ?_⟩, Nat.le_refl _, fun z => by rw [(q.1 10 6).resolve_left (by omega)] at z; exact z, fun _ _ z => z⟩, fun _ => ⟨rfl, [], rfl, Nat.le_refl _, fun _ _ _ => rfl, (List.append_nil _).symm, fun a _ x hx => ?_, trivial, fun x hx => absurd hx List.not_mem_nil, fun j x h => (by simp at h)⟩⟩
  · rcases q.1 a b with z | z
    · left; omega
    · exact Or.inr z
  · rcases q.2.2 k with z | z
    · left; omega
    · exact Or.inr z
  · unfold rp_h at *
    rw [(q.2.2 49).resolve_left (by omega), (q.2.2 50).resolve_left (by omega), (q.2.2 51).resolve_left (by omega)]
    exact hx
/-- below depth k the nest is kept -/
def xs_N (σ : pm_S) (k : Nat) (σ' : pm_S) : Prop := ∀ j, j < k → σ'.2.2 61 j = σ.2.2 61 j ∧ σ'.2.2 62 j = σ.2.2 62 j ∧ σ'.2.2 63 j = σ.2.2 63 j
theorem xs_Nr {σ : pm_S} {k : Nat} : xs_N σ k σ := fun _ _ => ⟨rfl, rfl, rfl⟩
theorem xs_Nt {σ σ1 σ2 : pm_S} {k k' : Nat} (hk : k ≤ k') (a : xs_N σ k σ1) (b : xs_N σ1 k' σ2) : xs_N σ k σ2 := fun j hj => by
  obtain ⟨a1, a2, a3⟩ := a j hj
  obtain ⟨b1, b2, b3⟩ := b j (by omega)
  exact ⟨b1.trans a1, b2.trans a2, b3.trans a3⟩
theorem xs_Nd {σ σ' : pm_S} {k : Nat} (d : rp_D σ σ') : xs_N σ k σ' := fun j _ => by
  rw [(d.2.2 61).resolve_left (by omega), (d.2.2 62).resolve_left (by omega), (d.2.2 63).resolve_left (by omega)]
  exact ⟨rfl, rfl, rfl⟩
theorem xs_Np {σ : pm_S} {k : Nat} {w a b : Int32} : xs_N σ k (xs_ps σ k w a b) := fun j hj => by
  refine ⟨?_, ?_, ?_⟩
  · show (pm_pr (pm_pr (pm_pr σ 61 _) 62 _) 63 _).2.2 61 j = _
    rw [pm_rne (by decide), pm_rne (by decide), pm_r22, pk_un (by omega)]
  · show (pm_pr (pm_pr (pm_pr σ 61 _) 62 _) 63 _).2.2 62 j = _
    rw [pm_rne (by decide), pm_r22, pk_un (by omega)]
  · show (pm_pr (pm_pr (pm_pr σ 61 _) 62 _) 63 _).2.2 63 j = _
    rw [pm_r22, pk_un (by omega)]
theorem xs_pt {σ : pm_S} {k : Nat} {w a b : Int32} : (xs_ps σ k w a b).1 10 34 = nI (k + 1) ∧ (xs_ps σ k w a b).2.2 61 k = w ∧ (xs_ps σ k w a b).2.2 62 k = a ∧ (xs_ps σ k w a b).2.2 63 k = b := by
  refine ⟨rfl, ?_, ?_, ?_⟩
  · show (pm_pr (pm_pr (pm_pr σ 61 _) 62 _) 63 _).2.2 61 k = _
    rw [pm_rne (by decide), pm_rne (by decide), pm_r22, pk_us]
  · show (pm_pr (pm_pr (pm_pr σ 61 _) 62 _) 63 _).2.2 62 k = _
    rw [pm_rne (by decide), pm_r22, pk_us]
  · show (pm_pr (pm_pr (pm_pr σ 61 _) 62 _) 63 _).2.2 63 k = _
    rw [pm_r22, pk_us]
/-! STATEMENTS: what one turn of the loop does, W = what is wanted at its head -/
def xs_bp (T : pg_T) (c : pg_C) : Nat := if 0 < c.1 then T.2.1 (c.1 - 1) else 0
def xs_t (body : Nat) (σ : pm_S) (k b : Nat) : Prop := σ.1 10 34 = nI k ∧ ((k = 0 ∧ b = body) ∨ ∃ j w, k = j + 1 ∧ σ.2.2 61 j = nI w ∧ w ≤ 6 ∧ w ≠ 3 ∧ σ.2.2 63 j = nI b)
def xs_w (σ : pm_S) (k w nd : Nat) : Prop := σ.1 10 34 = nI (k + 1) ∧ σ.2.2 61 k = nI w ∧ σ.2.2 62 k = nI nd
/-- below nd came l, then a body b2; it is on the nest -/
def xs_ob (t : Nat → Nat) (M n : Nat) (σ : pm_S) (h : rp_H) (nd nn : Nat) (l : List pg_N) (w k : Nat) (σ2 : pm_S) (h2 : rp_H) (c2 : pg_C) (b2 : Nat) : Prop :=
  ∃ σ1 h1 σc y, rp_Ew t M n σ h σ1 h1 nd l ∧ xs_N σ k σ1 ∧ rp_M σ1 h1.1 σc (nI 11) y 0 ∧ b2 = h1.1 ∧ h2 = rp_in h1 nd ∧ σ2 = xs_ps σc k (nI w) (nI nn) (nI b2) ∧ (σ2.1 10 6 = 0 → y = nI (xs_bp (pt_T t M n) c2))
abbrev xs_bg : List Nat := [57, 41, 16, 21, 23, 28, 29]
def xs_L (t : Nat → Nat) (M n body : Nat) (σ : pm_S) (c : pg_C) (h : rp_H) (s k b : Nat) : Prop := s ≤ 2000 ∧ rp_S t M n σ c h s ∧ σ.1 10 6 = 0 ∧ xs_t body σ k b ∧ b < h.1 ∧ k ≤ c.2.2
def xs_G (t : Nat → Nat) (M n : Nat) (σ : pm_S) (c : pg_C) (h : rp_H) (s k w nd : Nat) : Prop := s ≤ 2000 ∧ rp_S t M n σ c h s ∧ σ.1 10 6 = 0 ∧ xs_w σ k w nd ∧ nd < h.1 ∧ k + 1 ≤ c.2.2 ∧ (w = 3 ∨ pg_any (pt_T t M n) xs_bg c = false) ∧ 1 ≤ w ∧ w ≤ 6 ∧ 1 ≤ c.1
def xs_IA (t : Nat → Nat) (M n body : Nat) (W : pm_S → Prop) : Prop := ∀ (σ : pm_S) (c : pg_C) (h : rp_H) (s k b : Nat), xs_L t M n body σ c h s k b → pg_any (pt_T t M n) [57, 41, 28, 29] c = true → ∀ B, (∀ σ' h', rp_S t M n σ' (pg_stmt (pt_T t M n) B c).1 h' (s + 8) → rp_E t M n σ h σ' h' b (pg_stmt (pt_T t M n) B c).2 → W σ') → W σ
def xs_I1 (t : Nat → Nat) (M n body : Nat) (W : pm_S → Prop) : Prop := ∀ (σ : pm_S) (c : pg_C) (h : rp_H) (s k b : Nat), xs_L t M n body σ c h s k b → pg_is (pt_T t M n) 16 c = true →
  (∀ σa y σ2 h2 b2, rp_M σ h.1 σa (nI 15) y 0 → (σ2.1 10 6 = 0 → y = nI (pg_pl (pt_T t M n) c)) → xs_ob t M n σa (rp_in h b) h.1 h.1 (pg_E (pt_T t M n) (pg_opn c)).2 1 k σ2 h2 (pg_exp (pt_T t M n) 17 (pg_E (pt_T t M n) (pg_opn c)).1) b2 → rp_S t M n σ2 (pg_exp (pt_T t M n) 17 (pg_E (pt_T t M n) (pg_opn c)).1) h2 (s + 8) → W σ2) → W σ
def xs_I2 (t : Nat → Nat) (M n : Nat) (W : pm_S → Prop) : Prop := ∀ (σ : pm_S) (c : pg_C) (h : rp_H) (s k nd : Nat), xs_G t M n σ c h s k 1 nd → pg_is (pt_T t M n) 18 c = true →
  (∀ σ2 h2 b2, xs_ob t M n σ h nd nd (pg_E (pt_T t M n) (pg_stp c)).2 1 k σ2 h2 (pg_exp (pt_T t M n) 17 (pg_E (pt_T t M n) (pg_stp c)).1) b2 → rp_S t M n σ2 (pg_exp (pt_T t M n) 17 (pg_E (pt_T t M n) (pg_stp c)).1) h2 (s + 8) → W σ2) → W σ
def xs_I3 (t : Nat → Nat) (M n : Nat) (W : pm_S → Prop) : Prop := ∀ (σ : pm_S) (c : pg_C) (h : rp_H) (s k w nd : Nat), xs_G t M n σ c h s k w nd → (w = 1 ∨ w = 3 ∨ w = 4) → pg_is (pt_T t M n) 19 c = true →
  (∀ σ2 h2 b2, xs_ob t M n σ h nd nd [] (if w = 1 then 2 else 5) k σ2 h2 (pg_stp c) b2 → rp_S t M n σ2 (pg_stp c) h2 (s + 8) → W σ2) → W σ
def xs_ew (w e : Nat) : Prop := ((w = 1 ∨ w = 2) ∧ e = 20) ∨ ((w = 3 ∨ w = 4 ∨ w = 5) ∧ e = 22) ∨ (w = 6 ∧ e = 27)
def xs_I4 (t : Nat → Nat) (M n : Nat) (W : pm_S → Prop) : Prop := ∀ (σ : pm_S) (c : pg_C) (h : rp_H) (s k w nd e : Nat), xs_G t M n σ c h s k w nd → xs_ew w e → pg_is (pt_T t M n) e c = true →
  (∀ σ2, rp_S t M n σ2 (pg_exp (pt_T t M n) 57 (pg_dec (pg_exp (pt_T t M n) e c))) h (s + 8) → (∀ to, rp_Ew t M n σ h σ2 h to []) → xs_N σ k σ2 → σ2.1 10 34 = nI k → W σ2) → W σ
def xs_I5 (t : Nat → Nat) (M n : Nat) (W : pm_S → Prop) : Prop := ∀ (σ : pm_S) (c : pg_C) (h : rp_H) (s k w nd : Nat), xs_G t M n σ c h s k w nd → ¬ (w = 1 ∧ pg_is (pt_T t M n) 18 c = true) → ¬ ((w = 1 ∨ w = 3 ∨ w = 4) ∧ pg_is (pt_T t M n) 19 c = true) → ¬ ((w = 3 ∨ w = 4) ∧ pg_any (pt_T t M n) [42, 61, 35, 36] c = true) → (∀ e, xs_ew w e → pg_is (pt_T t M n) e c = false) →
  (∀ σ2, rp_S t M n σ2 (pg_stop c) h (s + 8) → (∀ to, rp_E t M n σ h σ2 h to []) → W σ2) → W σ
def xs_I6 (t : Nat → Nat) (M n body : Nat) (W : pm_S → Prop) : Prop := ∀ (σ : pm_S) (c : pg_C) (h : rp_H) (s k b : Nat), xs_L t M n body σ c h s k b → pg_is (pt_T t M n) 21 c = true →
  (∀ σa y σ1 h1, rp_M σ h.1 σa (nI 16) y 0 → (σ1.1 10 6 = 0 → y = nI (pg_pl (pt_T t M n) c)) → rp_Ew t M n σa (rp_in h b) σ1 h1 h.1 (pg_E (pt_T t M n) (pg_opn c)).2 → xs_N σ k σ1 → rp_S t M n (xs_ps σ1 k 3 (nI h.1) (-1)) (pg_exp (pt_T t M n) 15 (pg_E (pt_T t M n) (pg_opn c)).1) h1 (s + 8) → W (xs_ps σ1 k 3 (nI h.1) (-1))) → W σ
def xs_I7 (t : Nat → Nat) (M n : Nat) (W : pm_S → Prop) : Prop := ∀ (σ : pm_S) (c : pg_C) (h : rp_H) (s k w nd : Nat), xs_G t M n σ c h s k w nd → (w = 3 ∨ w = 4) → pg_any (pt_T t M n) [42, 61, 35, 36] c = true →
  (∀ σp σa y σ2 h2 b2, xs_q σ σp → xs_N σ k σp → rp_M σp h.1 σa (nI 17) y 0 → (σ2.1 10 6 = 0 → y = nI (pg_pl (pt_T t M n) c)) → xs_ob t M n σa (rp_in h nd) h.1 nd (pg_sep (pt_T t M n) (pg_range (pt_T t M n)) pg_M c).2 4 k σ2 h2 (pg_exp (pt_T t M n) 58 (pg_sep (pt_T t M n) (pg_range (pt_T t M n)) pg_M c).1) b2 → rp_S t M n σ2 (pg_exp (pt_T t M n) 58 (pg_sep (pt_T t M n) (pg_range (pt_T t M n)) pg_M c).1) h2 (s + 8) → W σ2) → W σ
def xs_fh (T : pg_T) : pg_P := pg_seq (pg_tok (fun c => pg_exp T 47 (pg_exp T 41 (pg_opn c)))) (pg_seq (pg_const T) (pg_seq (pg_tok (pg_exp T 24)) (pg_seq (pg_const T) (pg_seq (pg_ite (pg_is T 25) (pg_seq (pg_tok pg_stp) (pg_const T)) pg_nil) (pg_tok (pg_exp T 26))))))
def xs_I8 (t : Nat → Nat) (M n body : Nat) (W : pm_S → Prop) : Prop := ∀ (σ : pm_S) (c : pg_C) (h : rp_H) (s k b : Nat), xs_L t M n body σ c h s k b → pg_is (pt_T t M n) 23 c = true →
  (∀ σa y z σ2 h2 b2, rp_M σ h.1 σa (nI 19) y z → (σ2.1 10 6 = 0 → y = nI (pg_pl (pt_T t M n) c) ∧ rp_V t M n 19 z (pg_v (pt_T t M n) (pg_opn c))) → xs_ob t M n σa (rp_in h b) h.1 h.1 (xs_fh (pt_T t M n) c).2 6 k σ2 h2 (xs_fh (pt_T t M n) c).1 b2 → rp_S t M n σ2 (xs_fh (pt_T t M n) c).1 h2 (s + 8) → W σ2) → W σ
def xs_I (t : Nat → Nat) (M n body : Nat) (W : pm_S → Prop) : Prop := (xs_IA t M n body W ∧ xs_I1 t M n body W ∧ xs_I6 t M n body W ∧ xs_I8 t M n body W) ∧ xs_I2 t M n W ∧ xs_I3 t M n W ∧ xs_I4 t M n W ∧ xs_I5 t M n W ∧ xs_I7 t M n W
/-- what an opened body gives -/
theorem xs_obw {t : Nat → Nat} {M n : Nat} {σ : pm_S} {h : rp_H} {nd nn : Nat} {l : List pg_N} {w k : Nat} {σ2 : pm_S} {h2 : rp_H} {c2 : pg_C} {b2 : Nat} (ht : nd < h.1) (o : xs_ob t M n σ h nd nn l w k σ2 h2 c2 b2) : rp_Ww σ h σ2 h2 ∧ b2 < h2.1 ∧ h.1 < h2.1 ∧ xs_N σ k σ2 ∧ (σ2.1 10 34 = nI (k + 1) ∧ σ2.2.2 61 k = nI w ∧ σ2.2.2 62 k = nI nn ∧ σ2.2.2 63 k = nI b2) ∧ (σ2.1 10 6 = 0 → h2.1 = h.1 + l.length + 1) := by
  obtain ⟨σ1, h1, σc, y, e, nn1, m, rfl, rfl, rfl, hy⟩ := o
  have ht1 : nd < h1.1 := Nat.lt_of_lt_of_le ht e.1.2.1
  refine ⟨rp_Wwt e.1 (rp_Wwt (rp_Wwm ht1 m) (xs_Eq (t := t) (M := M) (n := n) (to := nd) xs_qp).1), Nat.lt_succ_self _, Nat.lt_succ_of_le e.1.2.1, xs_Nt (Nat.le_refl _) (xs_Nt (Nat.le_refl _) nn1 (xs_Nd m.1)) xs_Np, xs_pt, fun z => ?_⟩
  have z1 : σ1.1 10 6 = 0 := m.2.1 z
  have := (e.2 z1).1
  show h1.1 + 1 = _
  omega
theorem xs_obc {t : Nat → Nat} {M n : Nat} {σ : pm_S} {h : rp_H} {nd nn : Nat} {l l' : List pg_N} {w k : Nat} {σ2 σ3 : pm_S} {h2 h3 : rp_H} {c2 : pg_C} {b2 : Nat} (ht : nd < h.1) (o : xs_ob t M n σ h nd nn l w k σ2 h2 c2 b2) (e3 : rp_Ew t M n σ2 h2 σ3 h3 b2 l') : rp_Ew t M n σ h σ3 h3 nd (l ++ (11, xs_bp (pt_T t M n) c2, 0, l'.length + 1) :: l') := by
  obtain ⟨σ1, h1, σc, y, e, nn1, m, rfl, rfl, rfl, hy⟩ := o
  have ht1 : nd < h1.1 := Nat.lt_of_lt_of_le ht e.1.2.1
  refine rp_Ewt ht e (rp_Mnw ht1 m (rp_Ewt rp_li (xs_Eq xs_qp) e3) (fun z => ⟨rfl, hy (e3.1.2.2.1 z), rp_V0 (by decide)⟩))
/-- dead: whatever was to come -/
theorem xs_dx {t : Nat → Nat} {M n : Nat} {σ2 : pm_S} {h2 : rp_H} {c2 c' : pg_C} {s : Nat} (hS : rp_S t M n σ2 c2 h2 (s + 8)) (z : ¬ σ2.1 10 6 = 0) (q : pg_deq c2 c') : rp_T2 t M n σ2 c' h2 s 8 := ⟨rp_Sd hS (rp_dd hS z) q (Nat.le_refl _), fun y => absurd y z⟩
theorem xs_gb {T : pg_T} {c : pg_C} {k : Nat} (hk : k ∈ xs_bg) (h : pg_any T xs_bg c = false) : pg_is T k c = false := by
  cases q : pg_is T k c with
  | false => rfl
  | true =>
    have := pg_isk q
    unfold pg_any at h
    rw [this] at h
    have : xs_bg.contains k = true := by simpa using hk
    rw [h] at this
    cases this
theorem xs_end {t : Nat → Nat} {M n : Nat} {W : pm_S → Prop} (I4 : xs_I4 t M n W) (I5 : xs_I5 t M n W) {w e : Nat} (hw : (w = 2 ∧ e = 20) ∨ (w = 5 ∧ e = 22) ∨ (w = 6 ∧ e = 27)) {σ : pm_S} {c : pg_C} {h : rp_H} {s k nd to : Nat} (hs : s ≤ 2000) (hT : rp_T2 t M n σ c h s 8) (hl : σ.1 10 6 = 0 → xs_w σ k w nd ∧ nd < h.1 ∧ k + 1 ≤ c.2.2 ∧ pg_any (pt_T t M n) xs_bg c = false ∧ 1 ≤ c.1)
    (hX : ∀ σ', rp_T2 t M n σ' (pg_exp (pt_T t M n) 57 (pg_dec (pg_exp (pt_T t M n) e c))) h s 8 → rp_Ew t M n σ h σ' h to [] → (σ'.1 10 6 = 0 → xs_N σ k σ' ∧ σ'.1 10 34 = nI k) → W σ') : W σ := by
  have dq : ∀ a, pg_dead (pt_T t M n) a → pg_deq a (pg_exp (pt_T t M n) 57 (pg_dec a)) := fun a ha => pg_fcomp (f := pg_exp (pt_T t M n) 57) (g := pg_dec) (pg_fexp _ (by decide)) (pg_fdec _) a ha
  by_cases z : σ.1 10 6 = 0
  · obtain ⟨h1, h2, h3, h4, h5⟩ := hl z
    have hG : xs_G t M n σ c h s k w nd := ⟨hs, rp_t1 hT z, z, h1, h2, h3, Or.inr h4, by omega, by omega, h5⟩
    cases q : pg_is (pt_T t M n) e c with
    | true =>
      refine I4 σ c h s k w nd e hG (by unfold xs_ew; omega) q (fun σ2 a1 a2 a3 a4 => hX σ2 ⟨a1, fun _ => ?_⟩ (a2 to) (fun _ => ⟨a3, a4⟩))
      have i1 := pg_iexp (T := pt_T t M n) (k := e) (c := c)
      have i2 := pg_iexp (T := pt_T t M n) (k := 57) (c := pg_dec (pg_exp (pt_T t M n) e c))
      have i3 : (pg_dec (pg_exp (pt_T t M n) e c)).1 = (pg_exp (pt_T t M n) e c).1 := rfl
      have := hT.2 z
      omega
    | false =>
      have ee : pg_exp (pt_T t M n) e c = pg_stop c := by
        unfold pg_exp
        rw [if_neg]
        intro y
        unfold pg_is at q
        rw [y] at q
        simp at q
      refine I5 σ c h s k w nd hG (fun y => by omega) (fun y => by omega) (fun y => by omega) (fun e' he' => ?_) (fun σ2 a1 a2 => ?_)
      · have : e' = e := by unfold xs_ew at he'; omega
        rw [this]; exact q
      · have hd : ¬ σ2.1 10 6 = 0 := rp_d0 a1 pg_stopd
        rw [ee] at hX
        exact hX σ2 (xs_dx a1 hd (dq _ pg_stopd)) (rp_Eww (a2 to)) (fun y => absurd y hd)
  · have hd := rp_dd hT.1 z
    refine hX σ (xs_dx hT.1 z ?_) rp_Ewr (fun y => absurd y z)
    exact pg_deq_t (pg_fexp (pt_T t M n) (k := e) (by omega) c hd) (dq _ (pg_deq_d hd (pg_fexp (pt_T t M n) (k := e) (by omega) c hd)))
/-- reading goes on, statements -/
theorem xs_iE (T : pg_T) : pg_I (pg_E T) := pg_iX T 200 1
theorem xs_ix (T : pg_T) (k : Nat) : pg_I (pg_tok (pg_exp T k)) := pg_itok (fun _ => pg_iexp)
theorem xs_is : pg_I (pg_tok pg_stp) := pg_itok (fun _ => pg_istp)
theorem xs_ibody {T : pg_T} {B : pg_P} (h : pg_I B) : pg_I (pg_body T B) := pg_inode h
theorem xs_icond {T : pg_T} {B : pg_P} (h : pg_I B) : pg_I (pg_cond T B) := pg_iseq (xs_iE T) (pg_iseq (xs_ix T 17) (xs_ibody h))
theorem xs_ielse {T : pg_T} {B : pg_P} (h : pg_I B) : pg_I (pg_else T B) := pg_iite (pg_iseq xs_is (xs_ibody h)) pg_inil
theorem xs_ide (T : pg_T) (k : Nat) : pg_I (pg_tok (fun c => pg_dec (pg_exp T k c))) := pg_itok (fun _ => pg_iexp)
theorem xs_iif {T : pg_T} {B : pg_P} (h : pg_I B) : pg_I (pg_if T B) := pg_inode (pg_iseq (pg_itok (fun _ => pg_iopn)) (pg_iseq (xs_icond h) (pg_iseq (pg_iwhl (pg_iseq xs_is (xs_icond h)) pg_M) (pg_iseq (xs_ielse h) (xs_ide T 20)))))
theorem xs_irange (T : pg_T) : pg_I (pg_range T) := pg_inode (pg_iseq (pg_iconst T) (pg_iite (pg_iseq xs_is (pg_iconst T)) pg_inil))
theorem xs_ichoice {T : pg_T} {B : pg_P} (h : pg_I B) : pg_I (pg_choice T B) := pg_inode (pg_iseq (pg_isep (xs_irange T) pg_M) (pg_iseq (xs_ix T 58) (xs_ibody h)))
theorem xs_icase {T : pg_T} {B : pg_P} (h : pg_I B) : pg_I (pg_case T B) := pg_inode (pg_iseq (pg_itok (fun _ => pg_iopn)) (pg_iseq (xs_iE T) (pg_iseq (xs_ix T 15) (pg_iseq (pg_iwhl (xs_ichoice h) pg_M) (pg_iseq (xs_ielse h) (xs_ide T 22))))))
theorem xs_ifh (T : pg_T) : pg_I (xs_fh T) := pg_iseq (pg_itok (fun _ => Nat.le_trans pg_iopn (Nat.le_trans pg_iexp pg_iexp))) (pg_iseq (pg_iconst T) (pg_iseq (xs_ix T 24) (pg_iseq (pg_iconst T) (pg_iseq (pg_iite (pg_iseq xs_is (pg_iconst T)) pg_inil) (xs_ix T 26)))))
theorem xs_ifor {T : pg_T} {B : pg_P} (h : pg_I B) : pg_I (pg_for T B) := pg_inode (pg_iseq (pg_itok (fun _ => Nat.le_trans pg_iopn (Nat.le_trans pg_iexp pg_iexp))) (pg_iseq (pg_iconst T) (pg_iseq (xs_ix T 24) (pg_iseq (pg_iconst T) (pg_iseq (pg_iite (pg_iseq xs_is (pg_iconst T)) pg_inil) (pg_iseq (xs_ix T 26) (pg_iseq (xs_ibody h) (xs_ide T 27))))))))
theorem xs_itarg (T : pg_T) : pg_I (pg_targ T) := pg_iite (pg_ielem (xs_iE T)) (pg_ileaf (fun _ => pg_iexp))
theorem xs_iasg (T : pg_T) : pg_I (pg_asg T) := fun c => Nat.le_trans (xs_itarg T c) (Nat.le_trans (pg_iexp (T := T) (k := 47)) (xs_iE T _))
theorem xs_iinv (T : pg_T) : pg_I (pg_inv T) := pg_inode (pg_iseq (pg_itok (fun _ => Nat.le_trans pg_istp pg_iopn)) (pg_iseq (pg_iite pg_inil (pg_isep (pg_inode (pg_iseq (pg_itok (fun _ => Nat.le_trans pg_iexp pg_iexp)) (xs_iE T))) pg_M)) (pg_itok (fun _ => pg_iexp (c := pg_dec _)))))
theorem xs_ist0 {T : pg_T} {B : pg_P} (h : pg_I B) : pg_I (pg_ite (pg_is T 57) pg_nil (pg_ite (pg_is T 41) (pg_ite (pg_next T 52) (pg_inv T) (pg_asg T))
    (pg_ite (pg_is T 16) (pg_if T B) (pg_ite (pg_is T 21) (pg_case T B) (pg_ite (pg_is T 23) (pg_for T B)
    (pg_ite (pg_is T 28) (pg_leaf T 20 (fun _ => 0) pg_stp) (pg_leaf T 21 (fun _ => 0) pg_stp))))))) := pg_iite pg_inil (pg_iite (pg_iite (xs_iinv T) (xs_iasg T)) (pg_iite (xs_iif h) (pg_iite (xs_icase h) (pg_iite (xs_ifor h) (pg_iite (pg_ileaf (fun _ => pg_istp)) (pg_ileaf (fun _ => pg_istp)))))))
theorem xs_istmt {T : pg_T} {B : pg_P} (h : pg_I B) : pg_I (pg_stmt T B) := pg_iseq (xs_ist0 h) (xs_ix T 57)
theorem xs_iB (T : pg_T) : ∀ f, pg_I (pg_B T f)
  | 0 => pg_inil
  | f + 1 => pg_iwhl (xs_istmt (xs_iB T f)) pg_M
theorem pg_seq_c (a b : pg_P) (c : pg_C) : pg_seq a b c = ((b (a c).1).1, (a c).2 ++ (b (a c).1).2) := rfl
theorem pg_ite_c (p : pg_C → Bool) (a b : pg_P) (c : pg_C) : pg_ite p a b c = if p c then a c else b c := rfl
theorem pg_tok_c (f : pg_C → pg_C) (c : pg_C) : pg_tok f c = (f c, []) := rfl
theorem pg_nil_c (c : pg_C) : pg_nil c = (c, []) := rfl
theorem pg_node_c (k : Nat) (p : pg_C → Nat) (v : pg_C → Int32) (a : pg_P) (c : pg_C) : pg_node k p v a c = ((a c).1, (k, p c, v c, (a c).2.length + 1) :: (a c).2) := rfl
theorem pg_leaf_c (T : pg_T) (k : Nat) (v : pg_C → Int32) (f : pg_C → pg_C) (c : pg_C) : pg_leaf T k v f c = (f c, [(k, pg_pl T c, v c, 1)]) := rfl
theorem pg_whl_c (p : pg_C → Bool) (a : pg_P) (n : Nat) (c : pg_C) : pg_whl p a (n + 1) c = if p c then pg_seq a (pg_whl p a n) c else (c, []) := rfl
theorem pg_sep_c (T : pg_T) (a : pg_P) (n : Nat) (c : pg_C) : pg_sep T a (n + 1) c = pg_seq a (pg_ite (pg_is T 56) (pg_seq (pg_tok pg_stp) (pg_sep T a n)) pg_nil) c := rfl
theorem pg_cond_c (T : pg_T) (B : pg_P) (c : pg_C) : pg_cond T B c = pg_seq (pg_E T) (pg_seq (pg_tok (pg_exp T 17)) (pg_body T B)) c := rfl
theorem pg_else_c (T : pg_T) (B : pg_P) (c : pg_C) : pg_else T B c = pg_ite (pg_is T 19) (pg_seq (pg_tok pg_stp) (pg_body T B)) pg_nil c := rfl
theorem pg_body_1 (T : pg_T) (B : pg_P) (c : pg_C) : (pg_body T B c).1 = (B c).1 := rfl
/-- a body's statements, by induction later -/
def xs_HB (t : Nat → Nat) (M n body : Nat) (W : pm_S → Prop) (f : Nat) : Prop := ∀ (σ : pm_S) (c : pg_C) (h : rp_H) (s k b : Nat), s ≤ 2000 → rp_T2 t M n σ c h s 8 → (σ.1 10 6 = 0 → xs_t body σ k b ∧ b < h.1 ∧ k ≤ c.2.2 ∧ 61 ≤ f + c.2.2 ∧ 1 ≤ c.1) →
  (∀ σ' h', rp_T2 t M n σ' (pg_B (pt_T t M n) f c).1 h' s 8 → rp_Ew t M n σ h σ' h' b (pg_B (pt_T t M n) f c).2 → (σ'.1 10 6 = 0 → xs_N σ k σ' ∧ σ'.1 10 34 = nI k ∧ pg_any (pt_T t M n) xs_bg (pg_B (pt_T t M n) f c).1 = false) → W σ') → W σ
theorem pg_iB1 {a : pg_P} (h : pg_I a) {c : pg_C} : c.1 ≤ (a c).1.1 := h c
theorem xs_in {t : Nat → Nat} {M n body : Nat} {W : pm_S → Prop} {f : Nat} (hB : xs_HB t M n body W f) {σ : pm_S} {h : rp_H} {nd nn : Nat} {l : List pg_N} {w k s : Nat} {σ2 : pm_S} {h2 : rp_H} {c2 : pg_C} {b2 : Nat} (hs : s ≤ 2000) (ht : nd < h.1) (hw : w ≤ 6 ∧ w ≠ 3) (o : xs_ob t M n σ h nd nn l w k σ2 h2 c2 b2) (hS : rp_S t M n σ2 c2 h2 (s + 8)) (hc : σ2.1 10 6 = 0 → h2.1 ≤ 2 * c2.1 + s ∧ k + 1 ≤ c2.2.2 ∧ 61 ≤ f + c2.2.2 ∧ 1 ≤ c2.1)
    (hX : ∀ σ3 h3, rp_T2 t M n σ3 (pg_B (pt_T t M n) f c2).1 h3 s 8 → rp_Ew t M n σ h σ3 h3 nd (l ++ (pg_body (pt_T t M n) (pg_B (pt_T t M n) f) c2).2) → h.1 ≤ h3.1 → (σ3.1 10 6 = 0 → xs_N σ k σ3 ∧ xs_w σ3 k w nn ∧ pg_any (pt_T t M n) xs_bg (pg_B (pt_T t M n) f c2).1 = false ∧ c2.2.2 ≤ (pg_B (pt_T t M n) f c2).1.2.2) → (σ3.1 10 6 = 0 → σ2.1 10 6 = 0) → W σ3) : W σ2 := by
  obtain ⟨w1, w2, w3, w4, ⟨w5, w6, w7, w8⟩, w9⟩ := xs_obw ht o
  refine hB σ2 c2 h2 s (k + 1) b2 hs ⟨hS, fun z => (hc z).1⟩ (fun z => ⟨⟨w5, Or.inr ⟨k, w, rfl, w6, hw.1, hw.2, w8⟩⟩, w2, (hc z).2.1, (hc z).2.2⟩) (fun σ3 h3 a1 a2 a3 => ?_)
  refine hX σ3 h3 a1 (xs_obc ht o a2) (Nat.le_trans w1.2.1 a2.1.2.1) (fun z => ?_) a2.1.2.2.1
  obtain ⟨b1, b2', b3⟩ := a3 z
  obtain ⟨e1, e2, e3⟩ := b1 k (Nat.lt_succ_self _)
  exact ⟨xs_Nt (Nat.le_succ k) w4 b1, ⟨b2', e1.trans w6, e2.trans w7⟩, b3, pg_oB _ f c2 (rp_lv a1.1 z)⟩
def xs_ir (T : pg_T) (B : pg_P) (kk : Nat) : pg_P := pg_seq (pg_whl (pg_is T 18) (pg_seq (pg_tok pg_stp) (pg_cond T B)) kk) (pg_seq (pg_else T B) (pg_tok (fun c => pg_dec (pg_exp T 20 c))))
theorem xs_ir_c (T : pg_T) (B : pg_P) (kk : Nat) (c : pg_C) : xs_ir T B kk c = pg_seq (pg_whl (pg_is T 18) (pg_seq (pg_tok pg_stp) (pg_cond T B)) kk) (pg_seq (pg_else T B) (pg_tok (fun c => pg_dec (pg_exp T 20 c)))) c := rfl
theorem xs_dde {T : pg_T} {e : Nat} (he : e ≠ 46 ∧ e ≠ 45) : pg_D T (pg_tok (fun c => pg_dec (pg_exp T e c))) := pg_dtok (pg_fcomp (f := pg_dec) (pg_fdec T) (pg_fexp T he))
theorem xs_dir (T : pg_T) (B : pg_P) (kk : Nat) : pg_D T (xs_ir T B kk) := pg_dseq (pg_dwhl (pg_gis T (by decide)) kk) (pg_dseq pg_delse (xs_dde (by decide)))
theorem xs_isf {T : pg_T} {c : pg_C} {a b : Nat} (h : pg_is T a c = true) (hab : a ≠ b) : pg_is T b c = false := by
  have := pg_isk h
  unfold pg_is
  rw [this]
  simpa using hab
theorem xs_ef {T : pg_T} {c : pg_C} {e : Nat} (q : pg_is T e c = false) : pg_exp T e c = pg_stop c := by
  unfold pg_exp
  rw [if_neg]
  intro y
  unfold pg_is at q
  rw [y] at q
  simp at q
theorem xs_oex {T : pg_T} {e : Nat} {c : pg_C} : (pg_exp T e c).2.2 = c.2.2 := pg_oexp
theorem xs_ifl {t : Nat → Nat} {M n body : Nat} {W : pm_S → Prop} {f : Nat} (hB : xs_HB t M n body W f) (I2 : xs_I2 t M n W) (I3 : xs_I3 t M n W) (I4 : xs_I4 t M n W) (I5 : xs_I5 t M n W) {s k nd : Nat} (hs : s ≤ 2000) : ∀ (kk : Nat) (σ : pm_S) (c : pg_C) (h : rp_H), rp_T2 t M n σ c h s 8 → nd < h.1 → (σ.1 10 6 = 0 → xs_w σ k 1 nd ∧ k + 1 ≤ c.2.2 ∧ 61 ≤ f + c.2.2 ∧ pg_any (pt_T t M n) xs_bg c = false ∧ n ≤ c.1 + kk ∧ 1 ≤ c.1) →
    (∀ σ' h', rp_T2 t M n σ' (pg_exp (pt_T t M n) 57 (xs_ir (pt_T t M n) (pg_B (pt_T t M n) f) kk c).1) h' s 8 → rp_Ew t M n σ h σ' h' nd (xs_ir (pt_T t M n) (pg_B (pt_T t M n) f) kk c).2 → (σ'.1 10 6 = 0 → xs_N σ k σ' ∧ σ'.1 10 34 = nI k) → W σ') → W σ := by
  intro kk
  induction kk with
  | zero =>
    intro σ c h hT ht hl hX
    by_cases z : σ.1 10 6 = 0
    · have := (hl z).2.2.2.2.1
      have := hT.1.1.2.1
      omega
    · have hd := rp_dd hT.1 z
      have d1 := xs_dir (pt_T t M n) (pg_B (pt_T t M n) f) 0 c hd
      exact hX σ h (xs_dx hT.1 z (pg_deq_t d1 (pg_fexp _ (by decide) _ (pg_deq_d hd d1)))) (rp_Ewl rp_Wwr z) (fun y => absurd y z)
  | succ kk ih =>
    intro σ c h hT ht hl hX
    by_cases z : σ.1 10 6 = 0
    · obtain ⟨l1, l2, l3, l4, l5, l6⟩ := hl z
      have hS := rp_t1 hT z
      have hlv := rp_lv hS z
      have hG : xs_G t M n σ c h s k 1 nd := ⟨hs, hS, z, l1, ht, l2, Or.inr l4, by decide, by decide, l6⟩
      cases q : pg_is (pt_T t M n) 18 c with
      | true =>
        have e1 : (pg_stp c).1 = c.1 + 1 ∧ (pg_stp c).2.2 = c.2.2 := by rw [pg_stpl (T := pt_T t M n) hlv.1]; exact ⟨rfl, rfl⟩
        refine I2 σ c h s k nd hG q (fun σ2 h2 b2 o hS2 => ?_)
        obtain ⟨w1, w2, w3, w4, w5, w9⟩ := xs_obw ht o
        refine xs_in hB hs ht (by decide) o hS2 (fun y => ?_) (fun σ3 h3 a1 a2 a3 a4 _ => ?_)
        · have lv2 := rp_lv hS2 y
          obtain ⟨x1, x2, x3⟩ := pg_exl (by decide) lv2
          have L1 := pg_LE (pt_T t M n) (pg_stp c) x1
          have L2 := w9 y
          have L3 := hS.2.2
          have L4 : (pg_exp (pt_T t M n) 17 (pg_E (pt_T t M n) (pg_stp c)).1).1 = (pg_E (pt_T t M n) (pg_stp c)).1.1 + 1 := by rw [x3]
          have L5 : (pg_exp (pt_T t M n) 17 (pg_E (pt_T t M n) (pg_stp c)).1).2.2 = (pg_stp c).2.2 := pg_oexp
          omega
        · have i1 := pg_iX (pt_T t M n) 200 1 (pg_stp c)
          have i1 : (pg_stp c).1 ≤ (pg_E (pt_T t M n) (pg_stp c)).1.1 := i1
          have i2 := pg_iexp (T := pt_T t M n) (k := 17) (c := (pg_E (pt_T t M n) (pg_stp c)).1)
          have i3 := xs_iB (pt_T t M n) f (pg_exp (pt_T t M n) 17 (pg_E (pt_T t M n) (pg_stp c)).1)
          have L5 : (pg_exp (pt_T t M n) 17 (pg_E (pt_T t M n) (pg_stp c)).1).2.2 = (pg_stp c).2.2 := pg_oexp
          refine ih σ3 _ h3 a1 (by omega) (fun y => ⟨(a4 y).2.1, by have := (a4 y).2.2.2; omega, by have := (a4 y).2.2.2; omega, (a4 y).2.2.1, by omega, by omega⟩) (fun σ' h' b1 b2 b3 => ?_)
          have ec : xs_ir (pt_T t M n) (pg_B (pt_T t M n) f) (kk + 1) c = ((xs_ir (pt_T t M n) (pg_B (pt_T t M n) f) kk (pg_B (pt_T t M n) f (pg_exp (pt_T t M n) 17 (pg_E (pt_T t M n) (pg_stp c)).1)).1).1, ((pg_E (pt_T t M n) (pg_stp c)).2 ++ (pg_body (pt_T t M n) (pg_B (pt_T t M n) f) (pg_exp (pt_T t M n) 17 (pg_E (pt_T t M n) (pg_stp c)).1)).2) ++ (xs_ir (pt_T t M n) (pg_B (pt_T t M n) f) kk (pg_B (pt_T t M n) f (pg_exp (pt_T t M n) 17 (pg_E (pt_T t M n) (pg_stp c)).1)).1).2) := by
            simp only [xs_ir_c, pg_seq_c, pg_whl_c, q, if_true, pg_tok_c, pg_cond_c, pg_body_1, List.nil_append, List.append_assoc]
          refine hX σ' h' (by rw [ec]; exact b1) (by rw [ec]; exact rp_Ewt ht a2 b2) (fun y => ⟨xs_Nt (Nat.le_refl _) (a4 (b2.1.2.2.1 y)).1 (b3 y).1, (b3 y).2⟩)
      | false =>
        cases q2 : pg_is (pt_T t M n) 19 c with
        | true =>
          have e1 : (pg_stp c).1 = c.1 + 1 ∧ (pg_stp c).2.2 = c.2.2 := by rw [pg_stpl (T := pt_T t M n) hlv.1]; exact ⟨rfl, rfl⟩
          refine I3 σ c h s k 1 nd hG (Or.inl rfl) q2 (fun σ2 h2 b2 o hS2 => ?_)
          rw [if_pos rfl] at o
          obtain ⟨w1, w2, w3, w4, w5, w9⟩ := xs_obw ht o
          refine xs_in hB hs ht (by decide) o hS2 (fun y => ?_) (fun σ3 h3 a1 a2 a3 a4 _ => ?_)
          · have L2 := w9 y
            have L3 := hS.2.2
            have L4 : ([] : List pg_N).length = 0 := rfl
            omega
          · refine xs_end I4 I5 (w := 2) (e := 20) (to := nd) (Or.inl ⟨rfl, rfl⟩) hs a1 (fun y => ⟨(a4 y).2.1, by omega, by have := (a4 y).2.2.2; omega, (a4 y).2.2.1, by have := xs_iB (pt_T t M n) f (pg_stp c); omega⟩) (fun σ' b1 b2 b3 => ?_)
            have ec : xs_ir (pt_T t M n) (pg_B (pt_T t M n) f) (kk + 1) c = (pg_dec (pg_exp (pt_T t M n) 20 (pg_B (pt_T t M n) f (pg_stp c)).1), ([] ++ (pg_body (pt_T t M n) (pg_B (pt_T t M n) f) (pg_stp c)).2) ++ []) := by
              simp only [xs_ir_c, pg_seq_c, pg_whl_c, pg_ite_c, q, q2, if_true, if_false, Bool.false_eq_true, pg_tok_c, pg_nil_c, pg_else_c, pg_body_1, List.nil_append, List.append_nil]
            exact hX σ' h3 (by rw [ec]; exact b1) (by rw [ec]; exact rp_Ewt ht a2 b2) (fun y => ⟨xs_Nt (Nat.le_refl _) (a4 (b2.1.2.2.1 y)).1 (b3 y).1, (b3 y).2⟩)
        | false =>
          have ec : xs_ir (pt_T t M n) (pg_B (pt_T t M n) f) (kk + 1) c = (pg_dec (pg_exp (pt_T t M n) 20 c), []) := by
            simp only [xs_ir_c, pg_seq_c, pg_whl_c, pg_ite_c, q, q2, if_true, if_false, Bool.false_eq_true, pg_tok_c, pg_nil_c, pg_else_c, List.nil_append, List.append_nil]
          rw [ec] at hX
          cases q3 : pg_is (pt_T t M n) 20 c with
          | true =>
            refine I4 σ c h s k 1 nd 20 hG (Or.inl ⟨Or.inl rfl, rfl⟩) q3 (fun σ2 a1 a2 a3 a4 => hX σ2 h ⟨a1, fun _ => ?_⟩ (a2 nd) (fun _ => ⟨a3, a4⟩))
            have i1 := pg_iexp (T := pt_T t M n) (k := 20) (c := c)
            have i2 := pg_iexp (T := pt_T t M n) (k := 57) (c := pg_dec (pg_exp (pt_T t M n) 20 c))
            have i3 : (pg_dec (pg_exp (pt_T t M n) 20 c)).1 = (pg_exp (pt_T t M n) 20 c).1 := rfl
            have := hT.2 z
            show h.1 ≤ 2 * (pg_exp (pt_T t M n) 57 (pg_dec (pg_exp (pt_T t M n) 20 c))).1 + s
            omega
          | false =>
            refine I5 σ c h s k 1 nd hG (fun y => by rw [q] at y; cases y.2) (fun y => by rw [q2] at y; cases y.2) (fun y => by omega) (fun e' he' => ?_) (fun σ2 a1 a2 => ?_)
            · have : e' = 20 := by unfold xs_ew at he'; omega
              rw [this]; exact q3
            · have hd : ¬ σ2.1 10 6 = 0 := rp_d0 a1 pg_stopd
              rw [xs_ef q3] at hX
              exact hX σ2 h (xs_dx a1 hd (pg_fcomp (f := pg_exp (pt_T t M n) 57) (g := pg_dec) (pg_fexp _ (by decide)) (pg_fdec _) _ pg_stopd)) (rp_Eww (a2 nd)) (fun y => absurd y hd)
    · have hd := rp_dd hT.1 z
      have d1 := xs_dir (pt_T t M n) (pg_B (pt_T t M n) f) (kk + 1) c hd
      exact hX σ h (xs_dx hT.1 z (pg_deq_t d1 (pg_fexp _ (by decide) _ (pg_deq_d hd d1)))) (rp_Ewl rp_Wwr z) (fun y => absurd y z)
def xs_cr (T : pg_T) (B : pg_P) (kk : Nat) : pg_P := pg_seq (pg_whl (pg_any T [42, 61, 35, 36]) (pg_choice T B) kk) (pg_seq (pg_else T B) (pg_tok (fun c => pg_dec (pg_exp T 22 c))))
theorem xs_cr_c (T : pg_T) (B : pg_P) (kk : Nat) (c : pg_C) : xs_cr T B kk c = pg_seq (pg_whl (pg_any T [42, 61, 35, 36]) (pg_choice T B) kk) (pg_seq (pg_else T B) (pg_tok (fun c => pg_dec (pg_exp T 22 c)))) c := rfl
theorem xs_dcr (T : pg_T) (B : pg_P) (kk : Nat) : pg_D T (xs_cr T B kk) := pg_dseq (pg_dwhl (pg_gany T (by decide)) kk) (pg_dseq pg_delse (xs_dde (by decide)))
theorem xs_n3 (k : Nat) (p : pg_C → Nat) (v : pg_C → Int32) (S : pg_P) (e : pg_C → pg_C) (T : pg_T) (B : pg_P) (c : pg_C) : pg_node k p v (pg_seq S (pg_seq (pg_tok e) (pg_body T B))) c = ((B (e (S c).1)).1, (k, p c, v c, ((S c).2 ++ (pg_body T B (e (S c).1)).2).length + 1) :: ((S c).2 ++ (pg_body T B (e (S c).1)).2)) := by
  rw [pg_node_c, pg_seq_c, pg_seq_c, pg_tok_c, List.nil_append, pg_body_1]
theorem xs_ch_c (T : pg_T) (B : pg_P) (c : pg_C) : pg_choice T B c = ((B (pg_exp T 58 (pg_sep T (pg_range T) pg_M c).1)).1, (17, pg_pl T c, 0, ((pg_sep T (pg_range T) pg_M c).2 ++ (pg_body T B (pg_exp T 58 (pg_sep T (pg_range T) pg_M c).1)).2).length + 1) :: ((pg_sep T (pg_range T) pg_M c).2 ++ (pg_body T B (pg_exp T 58 (pg_sep T (pg_range T) pg_M c).1)).2)) := by
  unfold pg_choice
  exact xs_n3 17 _ _ _ _ T B c
theorem xs_any {T : pg_T} {ks : List Nat} {c : pg_C} {a : Nat} (h : pg_any T ks c = true) (ha : ks.contains a = false) : pg_is T a c = false := by
  cases q : pg_is T a c with
  | false => rfl
  | true =>
    unfold pg_any at h
    rw [pg_isk q, ha] at h
    cases h
theorem xs_cal {t : Nat → Nat} {M n body : Nat} {W : pm_S → Prop} {f : Nat} (hB : xs_HB t M n body W f) (I3 : xs_I3 t M n W) (I4 : xs_I4 t M n W) (I5 : xs_I5 t M n W) (I7 : xs_I7 t M n W) {s k nd : Nat} (hs : s ≤ 2000) : ∀ (kk : Nat) (σ : pm_S) (c : pg_C) (h : rp_H) (w : Nat), (w = 3 ∨ w = 4) → rp_T2 t M n σ c h s 8 → nd < h.1 → (σ.1 10 6 = 0 → xs_w σ k w nd ∧ k + 1 ≤ c.2.2 ∧ 61 ≤ f + c.2.2 ∧ (w = 3 ∨ pg_any (pt_T t M n) xs_bg c = false) ∧ n ≤ c.1 + kk ∧ 1 ≤ c.1) →
    (∀ σ' h', rp_T2 t M n σ' (pg_exp (pt_T t M n) 57 (xs_cr (pt_T t M n) (pg_B (pt_T t M n) f) kk c).1) h' s 8 → rp_Ew t M n σ h σ' h' nd (xs_cr (pt_T t M n) (pg_B (pt_T t M n) f) kk c).2 → (σ'.1 10 6 = 0 → xs_N σ k σ' ∧ σ'.1 10 34 = nI k) → W σ') → W σ := by
  intro kk
  induction kk with
  | zero =>
    intro σ c h w hw hT ht hl hX
    by_cases z : σ.1 10 6 = 0
    · have := (hl z).2.2.2.2.1
      have := hT.1.1.2.1
      omega
    · have hd := rp_dd hT.1 z
      have d1 := xs_dcr (pt_T t M n) (pg_B (pt_T t M n) f) 0 c hd
      exact hX σ h (xs_dx hT.1 z (pg_deq_t d1 (pg_fexp _ (by decide) _ (pg_deq_d hd d1)))) (rp_Ewl rp_Wwr z) (fun y => absurd y z)
  | succ kk ih =>
    intro σ c h w hw hT ht hl hX
    by_cases z : σ.1 10 6 = 0
    · obtain ⟨l1, l2, l3, l4, l5, l6⟩ := hl z
      have hS := rp_t1 hT z
      have hlv := rp_lv hS z
      have hG : xs_G t M n σ c h s k w nd := ⟨hs, hS, z, l1, ht, l2, l4, by omega, by omega, l6⟩
      cases q : pg_any (pt_T t M n) [42, 61, 35, 36] c with
      | true =>
        have ecc := xs_ch_c (pt_T t M n) (pg_B (pt_T t M n) f) c
        have hO : pg_O (pt_T t M n) (pg_sep (pt_T t M n) (pg_range (pt_T t M n)) pg_M) := pg_osep (T := pt_T t M n) (pg_orange (pt_T t M n)) (pg_drange (pt_T t M n)) pg_M
        have hI : pg_I (pg_sep (pt_T t M n) (pg_range (pt_T t M n)) pg_M) := pg_isep (T := pt_T t M n) (xs_irange (pt_T t M n)) pg_M
        have hLs : pg_L (pt_T t M n) 0 (pg_sep (pt_T t M n) (pg_range (pt_T t M n)) pg_M) := pg_Lsep (T := pt_T t M n) (pg_Lrange (pt_T t M n)) (pg_drange (pt_T t M n)) (Int.le_refl 0) pg_M
        have I7' := I7 σ c h s k w nd hG hw q
        have ec : xs_cr (pt_T t M n) (pg_B (pt_T t M n) f) (kk + 1) c = ((xs_cr (pt_T t M n) (pg_B (pt_T t M n) f) kk (pg_choice (pt_T t M n) (pg_B (pt_T t M n) f) c).1).1, (pg_choice (pt_T t M n) (pg_B (pt_T t M n) f) c).2 ++ (xs_cr (pt_T t M n) (pg_B (pt_T t M n) f) kk (pg_choice (pt_T t M n) (pg_B (pt_T t M n) f) c).1).2) := by
          simp only [xs_cr_c, pg_seq_c, pg_whl_c, q, if_true, List.append_assoc]
        rw [ecc] at ec
        clear ecc
        generalize pg_sep (pt_T t M n) (pg_range (pt_T t M n)) pg_M = S at *
        refine I7' (fun σp σa y σ2 h2 b2 hq hN m hy o hS2 => ?_)
        have ht1 : h.1 < (rp_in h nd).1 := rp_li
        obtain ⟨w1, w2, w3, w4, w5, w9⟩ := xs_obw ht1 o
        have hI := hI c
        have i2 := pg_iexp (T := pt_T t M n) (k := 58) (c := (S c).1)
        have i3 := xs_iB (pt_T t M n) f (pg_exp (pt_T t M n) 58 (S c).1)
        have L5 : (pg_exp (pt_T t M n) 58 (S c).1).2.2 = (S c).1.2.2 := pg_oexp
        refine xs_in hB hs ht1 (by decide) o hS2 (fun y => ?_) (fun σ3 h3 a1 a2 a3 a4 a5 => ?_)
        · have lv2 := rp_lv hS2 y
          obtain ⟨x1, x2, x3⟩ := pg_exl (by decide) lv2
          have L1 := hLs c x1
          have L2 := w9 y
          have L3 := hS.2.2
          have L4 : (pg_exp (pt_T t M n) 58 (S c).1).1 = (S c).1.1 + 1 := by rw [x3]
          have L6 := hO c x1
          have L7 : (rp_in h nd).1 = h.1 + 1 := rfl
          omega
        · have lk : σ3.1 10 6 = 0 → c.2.2 ≤ (pg_B (pt_T t M n) f (pg_exp (pt_T t M n) 58 (S c).1)).1.2.2 ∧ c.1 + 1 ≤ (pg_B (pt_T t M n) f (pg_exp (pt_T t M n) 58 (S c).1)).1.1 := fun y => by
            have lv3 := pg_bk (pg_dB (pt_T t M n) f) (rp_lv a1.1 y)
            obtain ⟨x1, x2, x3⟩ := pg_exl (by decide) lv3
            have L4 : (pg_exp (pt_T t M n) 58 (S c).1).1 = (S c).1.1 + 1 := by rw [x3]
            have L6 := hO c x1
            have L7 := (a4 y).2.2.2
            omega
          have e3 := rp_Ewt ht (xs_Eq (h := h) (to := nd) hq) (rp_Mnw (k := 17) (p := pg_pl (pt_T t M n) c) (v := 0) ht m a2 (fun y => ⟨rfl, hy (a5 y), rp_V0 (by decide)⟩))
          rw [List.nil_append] at e3
          refine ih σ3 _ h3 4 (Or.inr rfl) a1 (by have : (rp_in h nd).1 = h.1 + 1 := rfl; omega) (fun y => ⟨(a4 y).2.1, by have := lk y; omega, by have := lk y; omega, Or.inr (a4 y).2.2.1, by have := lk y; omega, by have := lk y; omega⟩) (fun σ' h' b1 b2 b3 => ?_)
          exact hX σ' h' (by rw [ec]; exact b1) (by rw [ec]; exact rp_Ewt ht e3 b2) (fun y => ⟨xs_Nt (Nat.le_refl _) (xs_Nt (Nat.le_refl _) (xs_Nt (Nat.le_refl _) hN (xs_Nd m.1)) (a4 (b2.1.2.2.1 y)).1) (b3 y).1, (b3 y).2⟩)
      | false =>
        cases q2 : pg_is (pt_T t M n) 19 c with
        | true =>
          have e1 : (pg_stp c).1 = c.1 + 1 ∧ (pg_stp c).2.2 = c.2.2 := by rw [pg_stpl (T := pt_T t M n) hlv.1]; exact ⟨rfl, rfl⟩
          refine I3 σ c h s k w nd hG (Or.inr hw) q2 (fun σ2 h2 b2 o hS2 => ?_)
          rw [if_neg (by omega)] at o
          obtain ⟨w1, w2, w3, w4, w5, w9⟩ := xs_obw ht o
          refine xs_in hB hs ht (by decide) o hS2 (fun y => ?_) (fun σ3 h3 a1 a2 a3 a4 _ => ?_)
          · have L2 := w9 y
            have L3 := hS.2.2
            have L4 : ([] : List pg_N).length = 0 := rfl
            omega
          · refine xs_end I4 I5 (w := 5) (e := 22) (to := nd) (Or.inr (Or.inl ⟨rfl, rfl⟩)) hs a1 (fun y => ⟨(a4 y).2.1, by omega, by have := (a4 y).2.2.2; omega, (a4 y).2.2.1, by have := xs_iB (pt_T t M n) f (pg_stp c); omega⟩) (fun σ' b1 b2 b3 => ?_)
            have ec : xs_cr (pt_T t M n) (pg_B (pt_T t M n) f) (kk + 1) c = (pg_dec (pg_exp (pt_T t M n) 22 (pg_B (pt_T t M n) f (pg_stp c)).1), ([] ++ (pg_body (pt_T t M n) (pg_B (pt_T t M n) f) (pg_stp c)).2) ++ []) := by
              simp only [xs_cr_c, pg_seq_c, pg_whl_c, pg_ite_c, q, q2, if_true, if_false, Bool.false_eq_true, pg_tok_c, pg_nil_c, pg_else_c, pg_body_1, List.nil_append, List.append_nil]
            exact hX σ' h3 (by rw [ec]; exact b1) (by rw [ec]; exact rp_Ewt ht a2 b2) (fun y => ⟨xs_Nt (Nat.le_refl _) (a4 (b2.1.2.2.1 y)).1 (b3 y).1, (b3 y).2⟩)
        | false =>
          have ec : xs_cr (pt_T t M n) (pg_B (pt_T t M n) f) (kk + 1) c = (pg_dec (pg_exp (pt_T t M n) 22 c), []) := by
            simp only [xs_cr_c, pg_seq_c, pg_whl_c, pg_ite_c, q, q2, if_true, if_false, Bool.false_eq_true, pg_tok_c, pg_nil_c, pg_else_c, List.nil_append, List.append_nil]
          rw [ec] at hX
          cases q3 : pg_is (pt_T t M n) 22 c with
          | true =>
            refine I4 σ c h s k w nd 22 hG (Or.inr (Or.inl ⟨by omega, rfl⟩)) q3 (fun σ2 a1 a2 a3 a4 => hX σ2 h ⟨a1, fun _ => ?_⟩ (a2 nd) (fun _ => ⟨a3, a4⟩))
            have i1 := pg_iexp (T := pt_T t M n) (k := 22) (c := c)
            have i2 := pg_iexp (T := pt_T t M n) (k := 57) (c := pg_dec (pg_exp (pt_T t M n) 22 c))
            have i3 : (pg_dec (pg_exp (pt_T t M n) 22 c)).1 = (pg_exp (pt_T t M n) 22 c).1 := rfl
            have := hT.2 z
            show h.1 ≤ 2 * (pg_exp (pt_T t M n) 57 (pg_dec (pg_exp (pt_T t M n) 22 c))).1 + s
            omega
          | false =>
            refine I5 σ c h s k w nd hG (fun y => by omega) (fun y => by rw [q2] at y; cases y.2) (fun y => by rw [q] at y; cases y.2) (fun e' he' => ?_) (fun σ2 a1 a2 => ?_)
            · have : e' = 22 := by unfold xs_ew at he'; omega
              rw [this]; exact q3
            · have hd : ¬ σ2.1 10 6 = 0 := rp_d0 a1 pg_stopd
              rw [xs_ef q3] at hX
              exact hX σ2 h (xs_dx a1 hd (pg_fcomp (f := pg_exp (pt_T t M n) 57) (g := pg_dec) (pg_fexp _ (by decide)) (pg_fdec _) _ pg_stopd)) (rp_Eww (a2 nd)) (fun y => absurd y hd)
    · have hd := rp_dd hT.1 z
      have d1 := xs_dcr (pt_T t M n) (pg_B (pt_T t M n) f) (kk + 1) c hd
      exact hX σ h (xs_dx hT.1 z (pg_deq_t d1 (pg_fexp _ (by decide) _ (pg_deq_d hd d1)))) (rp_Ewl rp_Wwr z) (fun y => absurd y z)
theorem xs_n4 (k : Nat) (p : pg_C → Nat) (v : pg_C → Int32) (o : pg_C → pg_C) (R : pg_P) (T : pg_T) (B : pg_P) (c : pg_C) : pg_node k p v (pg_seq (pg_tok o) (pg_seq (pg_cond T B) R)) c = ((R (B (pg_exp T 17 (pg_E T (o c)).1)).1).1, (k, p c, v c, (((pg_E T (o c)).2 ++ (pg_body T B (pg_exp T 17 (pg_E T (o c)).1)).2) ++ (R (B (pg_exp T 17 (pg_E T (o c)).1)).1).2).length + 1) :: (((pg_E T (o c)).2 ++ (pg_body T B (pg_exp T 17 (pg_E T (o c)).1)).2) ++ (R (B (pg_exp T 17 (pg_E T (o c)).1)).1).2)) := by
  rw [pg_node_c, pg_seq_c, pg_seq_c, pg_tok_c, List.nil_append, pg_cond_c, pg_seq_c, pg_seq_c, pg_tok_c, List.nil_append, pg_body_1]
theorem xs_if_c (T : pg_T) (B : pg_P) (c : pg_C) : pg_if T B c = ((xs_ir T B pg_M (B (pg_exp T 17 (pg_E T (pg_opn c)).1)).1).1, (15, pg_pl T c, 0, (((pg_E T (pg_opn c)).2 ++ (pg_body T B (pg_exp T 17 (pg_E T (pg_opn c)).1)).2) ++ (xs_ir T B pg_M (B (pg_exp T 17 (pg_E T (pg_opn c)).1)).1).2).length + 1) :: (((pg_E T (pg_opn c)).2 ++ (pg_body T B (pg_exp T 17 (pg_E T (pg_opn c)).1)).2) ++ (xs_ir T B pg_M (B (pg_exp T 17 (pg_E T (pg_opn c)).1)).1).2)) := by
  unfold pg_if xs_ir
  exact xs_n4 15 _ _ _ _ T B c
theorem xs_n5 (k : Nat) (p : pg_C → Nat) (v : pg_C → Int32) (o e : pg_C → pg_C) (E R : pg_P) (c : pg_C) : pg_node k p v (pg_seq (pg_tok o) (pg_seq E (pg_seq (pg_tok e) R))) c = ((R (e (E (o c)).1)).1, (k, p c, v c, ((E (o c)).2 ++ (R (e (E (o c)).1)).2).length + 1) :: ((E (o c)).2 ++ (R (e (E (o c)).1)).2)) := by
  rw [pg_node_c, pg_seq_c, pg_seq_c, pg_seq_c, pg_tok_c, pg_tok_c, List.nil_append, List.nil_append]
theorem xs_ca_c (T : pg_T) (B : pg_P) (c : pg_C) : pg_case T B c = ((xs_cr T B pg_M (pg_exp T 15 (pg_E T (pg_opn c)).1)).1, (16, pg_pl T c, 0, ((pg_E T (pg_opn c)).2 ++ (xs_cr T B pg_M (pg_exp T 15 (pg_E T (pg_opn c)).1)).2).length + 1) :: ((pg_E T (pg_opn c)).2 ++ (xs_cr T B pg_M (pg_exp T 15 (pg_E T (pg_opn c)).1)).2)) := by
  unfold pg_case xs_cr
  exact xs_n5 16 _ _ _ _ _ _ c
theorem xs_fh_c (T : pg_T) (c : pg_C) : xs_fh T c = pg_seq (pg_tok (fun c => pg_exp T 47 (pg_exp T 41 (pg_opn c)))) (pg_seq (pg_const T) (pg_seq (pg_tok (pg_exp T 24)) (pg_seq (pg_const T) (pg_seq (pg_ite (pg_is T 25) (pg_seq (pg_tok pg_stp) (pg_const T)) pg_nil) (pg_tok (pg_exp T 26)))))) c := rfl
theorem xs_fo_c (T : pg_T) (B : pg_P) (c : pg_C) : pg_for T B c = (pg_dec (pg_exp T 27 (B (xs_fh T c).1).1), (19, pg_pl T c, pg_v T (pg_opn c), ((xs_fh T c).2 ++ (pg_body T B (xs_fh T c).1).2).length + 1) :: ((xs_fh T c).2 ++ (pg_body T B (xs_fh T c).1).2)) := by
  have e : ∀ (A C1 X1 C2 I X2 Y Z : pg_P) (c : pg_C), (pg_seq A (pg_seq C1 (pg_seq X1 (pg_seq C2 (pg_seq I (pg_seq X2 (pg_seq Y Z))))))) c = ((Z (Y ((pg_seq A (pg_seq C1 (pg_seq X1 (pg_seq C2 (pg_seq I X2))))) c).1).1).1, ((pg_seq A (pg_seq C1 (pg_seq X1 (pg_seq C2 (pg_seq I X2))))) c).2 ++ ((Y ((pg_seq A (pg_seq C1 (pg_seq X1 (pg_seq C2 (pg_seq I X2))))) c).1).2 ++ (Z (Y ((pg_seq A (pg_seq C1 (pg_seq X1 (pg_seq C2 (pg_seq I X2))))) c).1).1).2)) := by
    intro A C1 X1 C2 I X2 Y Z c
    simp only [pg_seq_c, List.append_assoc]
  unfold pg_for xs_fh
  rw [pg_node_c, e]
  rw [pg_tok_c, List.append_nil, pg_body_1]
def xs_fr (T : pg_T) : pg_P := pg_seq (pg_const T) (pg_seq (pg_tok (pg_exp T 24)) (pg_seq (pg_const T) (pg_seq (pg_ite (pg_is T 25) (pg_seq (pg_tok pg_stp) (pg_const T)) pg_nil) (pg_tok (pg_exp T 26)))))
theorem xs_fh_1 (T : pg_T) (c : pg_C) : xs_fh T c = xs_fr T (pg_exp T 47 (pg_exp T 41 (pg_opn c))) := by
  unfold xs_fh xs_fr
  rw [pg_seq_c, pg_tok_c, List.nil_append]
theorem xs_dif (T : pg_T) : pg_D T (pg_ite (pg_is T 25) (pg_seq (pg_tok pg_stp) (pg_const T)) pg_nil) := pg_dite (pg_gis T (by decide)) (pg_dnil T)
theorem xs_dfr (T : pg_T) : pg_D T (xs_fr T) := pg_dseq (pg_dconst T) (pg_dseq (pg_dtok (pg_fexp T (by decide))) (pg_dseq (pg_dconst T) (pg_dseq (xs_dif T) (pg_dtok (pg_fexp T (by decide))))))
theorem xs_ofr (T : pg_T) : pg_O T (xs_fr T) := pg_oseq (pg_oconst T) (pg_oseq (pg_oexpt T 24) (pg_oseq (pg_oconst T) (pg_oseq (pg_oite (pg_oseq (pg_ostpt T) (pg_oconst T) (pg_dconst T)) (pg_onil T)) (pg_oexpt T 26) (pg_dtok (pg_fexp T (by decide)))) (pg_dseq (xs_dif T) (pg_dtok (pg_fexp T (by decide))))) (pg_dseq (pg_dconst T) (pg_dseq (xs_dif T) (pg_dtok (pg_fexp T (by decide)))))) (pg_dseq (pg_dtok (pg_fexp T (by decide))) (pg_dseq (pg_dconst T) (pg_dseq (xs_dif T) (pg_dtok (pg_fexp T (by decide))))))
theorem xs_Lfr (T : pg_T) : pg_L T (-6) (xs_fr T) := pg_Lw (pg_Lseq (pg_Lconst T) (pg_Lseq (pg_Lexp T (k := 24) (by decide)) (pg_Lseq (pg_Lconst T) (pg_Lseq (δ := 0) (pg_Lite (pg_Lw (pg_Lseq (pg_Lstp T) (pg_Lconst T) (pg_dconst T)) (by omega)) (pg_Lnil T)) (pg_Lexp T (k := 26) (by decide)) (pg_dtok (pg_fexp T (by decide)))) (pg_dseq (xs_dif T) (pg_dtok (pg_fexp T (by decide))))) (pg_dseq (pg_dconst T) (pg_dseq (xs_dif T) (pg_dtok (pg_fexp T (by decide)))))) (pg_dseq (pg_dtok (pg_fexp T (by decide))) (pg_dseq (pg_dconst T) (pg_dseq (xs_dif T) (pg_dtok (pg_fexp T (by decide))))))) (by omega)
theorem xs_fop (T : pg_T) {c : pg_C} (lv : pg_live T (xs_fh T c).1) : c.2.2 + 1 ≤ (xs_fh T c).1.2.2 ∧ ((xs_fh T c).2.length : Int) + 2 * (c.1 : Int) + 8 ≤ 2 * ((xs_fh T c).1.1 : Int) := by
  rw [xs_fh_1] at lv ⊢
  have l1 := pg_bk (xs_dfr T) lv
  have o1 := xs_ofr T _ lv
  have L1 := xs_Lfr T _ lv
  obtain ⟨x1, x2, x3⟩ := pg_exl (by decide) l1
  obtain ⟨u1, u2, u3⟩ := pg_exl (by decide) x1
  obtain ⟨y1, y2, y3⟩ := pg_lopn u1
  have e1 : (pg_exp T 47 (pg_exp T 41 (pg_opn c))).1 = c.1 + 3 := by rw [x3]; show (pg_exp T 41 (pg_opn c)).1 + 1 = _; rw [u3]; show (pg_opn c).1 + 1 + 1 = _; rw [y3]
  have e2 : (pg_exp T 47 (pg_exp T 41 (pg_opn c))).2.2 = c.2.2 + 1 := by rw [pg_oexp, pg_oexp, y3]
  generalize pg_exp T 47 (pg_exp T 41 (pg_opn c)) = c0 at *
  omega
def xs_K (t : Nat → Nat) (M n : Nat) (W : pm_S → Prop) (σ : pm_S) (h : rp_H) (s k b : Nat) (r : pg_C × List pg_N) : Prop := ∀ σ' h', rp_T2 t M n σ' r.1 h' s 8 → rp_Ew t M n σ h σ' h' b r.2 → (σ'.1 10 6 = 0 → xs_N σ k σ' ∧ σ'.1 10 34 = nI k) → W σ'
theorem xs_if {t : Nat → Nat} {M n body : Nat} {W : pm_S → Prop} (hN : rp_n t M n) (I : xs_I t M n body W) {f : Nat} (hB : xs_HB t M n body W f) {σ : pm_S} {c : pg_C} {h : rp_H} {s k b : Nat} (hL : xs_L t M n body σ c h s k b) (hf : 61 ≤ f + 1 + c.2.2) (q : pg_is (pt_T t M n) 16 c = true) (hX : xs_K t M n W σ h s k b (pg_exp (pt_T t M n) 57 (pg_if (pt_T t M n) (pg_B (pt_T t M n) f) c).1, (pg_if (pt_T t M n) (pg_B (pt_T t M n) f) c).2)) : W σ := by
  obtain ⟨⟨IA, I1, I6, I8⟩, I2, I3, I4, I5, I7⟩ := I
  obtain ⟨hs, hS, z, ht, hb, hk⟩ := id hL
  rw [xs_if_c] at hX
  obtain ⟨K, eK⟩ : ∃ K, K = pg_M := ⟨_, rfl⟩
  have eM : K = 8192 := eK
  rw [← eK] at hX
  clear eK
  refine I1 σ c h s k b hL q (fun σa y σ2 h2 b2 m hy o hS2 => ?_)
  have ht1 : h.1 < (rp_in h b).1 := rp_li
  obtain ⟨w1, w2, w3, w4, w5, w9⟩ := xs_obw ht1 o
  have op : ∀ a, pg_live (pt_T t M n) (pg_exp (pt_T t M n) 17 (pg_E (pt_T t M n) (pg_opn c)).1) → a = a → (pg_opn c).1 = c.1 + 1 ∧ (pg_opn c).2.2 = c.2.2 + 1 := fun (_ : Nat) y _ => by
    obtain ⟨x1, x2, x3⟩ := pg_exl (by decide) y
    obtain ⟨y1, y2, y3⟩ := pg_lopn (pg_bk (pg_dE _) x1)
    rw [y3]; exact ⟨rfl, rfl⟩
  have L5 : (pg_exp (pt_T t M n) 17 (pg_E (pt_T t M n) (pg_opn c)).1).2.2 = (pg_opn c).2.2 := pg_oexp
  refine xs_in hB hs ht1 (by decide) o hS2 (fun y => ?_) (fun σ3 h3 a1 a2 a3 a4 a5 => ?_)
  · have lv2 := rp_lv hS2 y
    obtain ⟨x1, x2, x3⟩ := pg_exl (by decide) lv2
    have L1 := pg_LE (pt_T t M n) (pg_opn c) x1
    have L2 := w9 y
    have L3 := hS.2.2
    have L4 : (pg_exp (pt_T t M n) 17 (pg_E (pt_T t M n) (pg_opn c)).1).1 = (pg_E (pt_T t M n) (pg_opn c)).1.1 + 1 := by rw [x3]
    have L6 := op 0 lv2 rfl
    have L7 : (rp_in h b).1 = h.1 + 1 := rfl
    omega
  · have hn1 := hN.1
    have hn2 := hN.2.2.2.1
    refine xs_ifl hB I2 I3 I4 I5 hs K σ3 _ h3 a1 (by omega) (fun y => ?_) (fun σ' h' b1 b2 b3 => hX σ' h' b1 (rp_Mnw hb m (rp_Ewt ht1 a2 b2) (fun y => ⟨rfl, hy (a5 (b2.1.2.2.1 y)), rp_V0 (by decide)⟩)) (fun y => ⟨xs_Nt (Nat.le_refl _) (xs_Nt (Nat.le_refl _) (xs_Nd m.1) (a4 (b2.1.2.2.1 y)).1) (b3 y).1, (b3 y).2⟩))
    have lv3 := pg_bk (pg_dB (pt_T t M n) f) (rp_lv a1.1 y)
    have L6 := op 0 lv3 rfl
    have L8 := (a4 y).2.2.2
    have i1 := xs_iE (pt_T t M n) (pg_opn c)
    have i2 := pg_iexp (T := pt_T t M n) (k := 17) (c := (pg_E (pt_T t M n) (pg_opn c)).1)
    have i3 := xs_iB (pt_T t M n) f (pg_exp (pt_T t M n) 17 (pg_E (pt_T t M n) (pg_opn c)).1)
    exact ⟨(a4 y).2.1, by omega, by omega, (a4 y).2.2.1, by omega, by omega⟩
theorem xs_case {t : Nat → Nat} {M n body : Nat} {W : pm_S → Prop} (hN : rp_n t M n) (I : xs_I t M n body W) {f : Nat} (hB : xs_HB t M n body W f) {σ : pm_S} {c : pg_C} {h : rp_H} {s k b : Nat} (hL : xs_L t M n body σ c h s k b) (hf : 61 ≤ f + 1 + c.2.2) (q : pg_is (pt_T t M n) 21 c = true) (hX : xs_K t M n W σ h s k b (pg_exp (pt_T t M n) 57 (pg_case (pt_T t M n) (pg_B (pt_T t M n) f) c).1, (pg_case (pt_T t M n) (pg_B (pt_T t M n) f) c).2)) : W σ := by
  obtain ⟨⟨IA, I1, I6, I8⟩, I2, I3, I4, I5, I7⟩ := I
  obtain ⟨hs, hS, z, ht, hb, hk⟩ := id hL
  rw [xs_ca_c] at hX
  obtain ⟨K, eK⟩ : ∃ K, K = pg_M := ⟨_, rfl⟩
  have eM : K = 8192 := eK
  rw [← eK] at hX
  clear eK
  refine I6 σ c h s k b hL q (fun σa y σ1 h1 m hy e1 n1 hS2 => ?_)
  have ht1 : h.1 < (rp_in h b).1 := rp_li
  have hm1 := hN.1
  have hn2 := hN.2.2.2.1
  have L5 : (pg_exp (pt_T t M n) 15 (pg_E (pt_T t M n) (pg_opn c)).1).2.2 = (pg_opn c).2.2 := pg_oexp
  have op : σ1.1 10 6 = 0 → (pg_opn c).1 = c.1 + 1 ∧ (pg_opn c).2.2 = c.2.2 + 1 ∧ h1.1 ≤ 2 * (pg_exp (pt_T t M n) 15 (pg_E (pt_T t M n) (pg_opn c)).1).1 + s := fun y => by
    have lv2 := rp_lv hS2 y
    obtain ⟨x1, x2, x3⟩ := pg_exl (by decide) lv2
    obtain ⟨y1, y2, y3⟩ := pg_lopn (pg_bk (pg_dE _) x1)
    have L1 := pg_LE (pt_T t M n) (pg_opn c) x1
    have L2 := (e1.2 y).1
    have L3 := hS.2.2
    have L4 : (pg_exp (pt_T t M n) 15 (pg_E (pt_T t M n) (pg_opn c)).1).1 = (pg_E (pt_T t M n) (pg_opn c)).1.1 + 1 := by rw [x3]
    have L6 : (pg_opn c).1 = c.1 + 1 ∧ (pg_opn c).2.2 = c.2.2 + 1 := by rw [y3]; exact ⟨rfl, rfl⟩
    have L7 : (rp_in h b).1 = h.1 + 1 := rfl
    omega
  have i1 := xs_iE (pt_T t M n) (pg_opn c)
  have i2 := pg_iexp (T := pt_T t M n) (k := 15) (c := (pg_E (pt_T t M n) (pg_opn c)).1)
  refine xs_cal (nd := h.1) (k := k) hB I3 I4 I5 I7 hs K _ _ h1 3 (Or.inl rfl) ⟨hS2, fun y => (op y).2.2⟩ (Nat.lt_of_lt_of_le ht1 e1.1.2.1) (fun y => ?_) (fun σ' h' b1 b2 b3 => hX σ' h' b1 (rp_Mnw hb m (rp_Ewt ht1 e1 (rp_Ewe (rp_Ewt (Nat.lt_of_lt_of_le ht1 e1.1.2.1) (xs_Eq xs_qp) b2) (List.nil_append _))) (fun y => ⟨rfl, hy (b2.1.2.2.1 y), rp_V0 (by decide)⟩)) (fun y => ⟨xs_Nt (Nat.le_refl _) (xs_Nt (Nat.le_refl _) n1 xs_Np) (b3 y).1, (b3 y).2⟩))
  have L6 := op y
  refine ⟨⟨rfl, xs_pt.2.1, xs_pt.2.2.1⟩, by omega, by omega, Or.inl rfl, by omega, by omega⟩
theorem xs_for {t : Nat → Nat} {M n body : Nat} {W : pm_S → Prop} (hN : rp_n t M n) (I : xs_I t M n body W) {f : Nat} (hB : xs_HB t M n body W f) {σ : pm_S} {c : pg_C} {h : rp_H} {s k b : Nat} (hL : xs_L t M n body σ c h s k b) (hf : 61 ≤ f + 1 + c.2.2) (q : pg_is (pt_T t M n) 23 c = true) (hX : xs_K t M n W σ h s k b (pg_exp (pt_T t M n) 57 (pg_for (pt_T t M n) (pg_B (pt_T t M n) f) c).1, (pg_for (pt_T t M n) (pg_B (pt_T t M n) f) c).2)) : W σ := by
  obtain ⟨⟨IA, I1, I6, I8⟩, I2, I3, I4, I5, I7⟩ := I
  obtain ⟨hs, hS, z, ht, hb, hk⟩ := id hL
  rw [xs_fo_c] at hX
  refine I8 σ c h s k b hL q (fun σa y v σ2 h2 b2 m hy o hS2 => ?_)
  have ht1 : h.1 < (rp_in h b).1 := rp_li
  obtain ⟨w1, w2, w3, w4, w5, w9⟩ := xs_obw ht1 o
  refine xs_in hB hs ht1 (by decide) o hS2 (fun y => ?_) (fun σ3 h3 a1 a2 a3 a4 a5 => ?_)
  · have L1 := xs_fop _ (rp_lv hS2 y)
    have L2 := w9 y
    have L3 := hS.2.2
    have L7 : (rp_in h b).1 = h.1 + 1 := rfl
    omega
  · refine xs_end I4 I5 (w := 6) (e := 27) (nd := h.1) (to := h.1) (Or.inr (Or.inr ⟨rfl, rfl⟩)) hs a1 (fun y => ?_) (fun σ' b1 b2 b3 => hX σ' h3 b1 (rp_Mnw hb m (rp_Ewe (rp_Ewt ht1 a2 b2) (List.append_nil _)) (fun y => ⟨rfl, hy (a5 (b2.1.2.2.1 y))⟩)) (fun y => ⟨xs_Nt (Nat.le_refl _) (xs_Nt (Nat.le_refl _) (xs_Nd m.1) (a4 (b2.1.2.2.1 y)).1) (b3 y).1, (b3 y).2⟩))
    have L1 := xs_fop _ (pg_bk (pg_dB (pt_T t M n) f) (rp_lv a1.1 y))
    have L8 := (a4 y).2.2.2
    exact ⟨(a4 y).2.1, by have : (rp_in h b).1 = h.1 + 1 := rfl; omega, by omega, (a4 y).2.2.1, by have := xs_iB (pt_T t M n) f (xs_fh (pt_T t M n) c).1; omega⟩
theorem xs_stmt {t : Nat → Nat} {M n body : Nat} {W : pm_S → Prop} (hN : rp_n t M n) (I : xs_I t M n body W) {f : Nat} (hB : xs_HB t M n body W f) {σ : pm_S} {c : pg_C} {h : rp_H} {s k b : Nat} (hL : xs_L t M n body σ c h s k b) (hf : 61 ≤ f + 1 + c.2.2) (q : pg_any (pt_T t M n) xs_bg c = true) (hX : xs_K t M n W σ h s k b (pg_stmt (pt_T t M n) (pg_B (pt_T t M n) f) c)) : W σ := by
  have e0 : pg_stmt (pt_T t M n) (pg_B (pt_T t M n) f) c = pg_seq (pg_ite (pg_is (pt_T t M n) 57) pg_nil (pg_ite (pg_is (pt_T t M n) 41) (pg_ite (pg_next (pt_T t M n) 52) (pg_inv (pt_T t M n)) (pg_asg (pt_T t M n))) (pg_ite (pg_is (pt_T t M n) 16) (pg_if (pt_T t M n) (pg_B (pt_T t M n) f)) (pg_ite (pg_is (pt_T t M n) 21) (pg_case (pt_T t M n) (pg_B (pt_T t M n) f)) (pg_ite (pg_is (pt_T t M n) 23) (pg_for (pt_T t M n) (pg_B (pt_T t M n) f)) (pg_ite (pg_is (pt_T t M n) 28) (pg_leaf (pt_T t M n) 20 (fun _ => 0) pg_stp) (pg_leaf (pt_T t M n) 21 (fun _ => 0) pg_stp))))))) (pg_tok (pg_exp (pt_T t M n) 57)) c := rfl
  cases q1 : pg_is (pt_T t M n) 16 c with
  | true =>
    refine xs_if hN I hB hL hf q1 ?_
    rw [e0] at hX
    simp only [pg_seq_c, pg_ite_c, pg_tok_c, q1, xs_isf q1 (show 16 ≠ 57 by decide), xs_isf q1 (show 16 ≠ 41 by decide), if_true, if_false, Bool.false_eq_true, List.append_nil] at hX
    exact hX
  | false =>
    cases q2 : pg_is (pt_T t M n) 21 c with
    | true =>
      refine xs_case hN I hB hL hf q2 ?_
      rw [e0] at hX
      simp only [pg_seq_c, pg_ite_c, pg_tok_c, q1, q2, xs_isf q2 (show 21 ≠ 57 by decide), xs_isf q2 (show 21 ≠ 41 by decide), if_true, if_false, Bool.false_eq_true, List.append_nil] at hX
      exact hX
    | false =>
      cases q3 : pg_is (pt_T t M n) 23 c with
      | true =>
        refine xs_for hN I hB hL hf q3 ?_
        rw [e0] at hX
        simp only [pg_seq_c, pg_ite_c, pg_tok_c, q1, q2, q3, xs_isf q3 (show 23 ≠ 57 by decide), xs_isf q3 (show 23 ≠ 41 by decide), if_true, if_false, Bool.false_eq_true, List.append_nil] at hX
        exact hX
      | false =>
        have q4 : pg_any (pt_T t M n) [57, 41, 28, 29] c = true := by
          unfold pg_any pg_is at *
          simp at q q1 q2 q3 ⊢
          omega
        have hS := hL.2.1
        refine I.1.1 σ c h s k b hL q4 (pg_B (pt_T t M n) f) (fun σ' h' a1 a2 => hX σ' h' (rp_t2 (pg_Lstmt (pg_LB _ f) (pg_dB _ f)) hS a1 a2) (rp_Eww a2) (fun z => ⟨xs_Nd a2.1, ?_⟩))
        rw [(a2.1.1 10 34).resolve_left (by omega)]
        exact hL.2.2.2.1.1
theorem xs_stn {T : pg_T} {B : pg_P} (hI : pg_I B) {c : pg_C} (z : pg_live T (pg_stmt T B c).1) : c.1 + 1 ≤ (pg_stmt T B c).1.1 := by
  have z : pg_live T (pg_exp T 57 (pg_ite (pg_is T 57) pg_nil (pg_ite (pg_is T 41) (pg_ite (pg_next T 52) (pg_inv T) (pg_asg T)) (pg_ite (pg_is T 16) (pg_if T B) (pg_ite (pg_is T 21) (pg_case T B) (pg_ite (pg_is T 23) (pg_for T B) (pg_ite (pg_is T 28) (pg_leaf T 20 (fun _ => 0) pg_stp) (pg_leaf T 21 (fun _ => 0) pg_stp)))))) c).1) := z
  have i0 := xs_ist0 (T := T) hI c
  obtain ⟨x1, x2, x3⟩ := pg_exl (by decide) z
  show c.1 + 1 ≤ (pg_exp T 57 _).1
  rw [x3]
  exact Nat.succ_le_succ i0
theorem xs_B {t : Nat → Nat} {M n body : Nat} {W : pm_S → Prop} (hN : rp_n t M n) (I : xs_I t M n body W) : ∀ f, xs_HB t M n body W f
  | 0 => fun σ c h s k b hs hT hl hX => by
    by_cases z : σ.1 10 6 = 0
    · have h1 := (hl z).2.2.2.1
      have h2 := (hT.1.1.2.2.1 (rp_lv hT.1 z)).2.2.2.2.2.2.2
      omega
    · exact hX σ h hT rp_Ewr (fun y => absurd y z)
  | f + 1 => by
    have hB := xs_B hN I f
    have key : ∀ (kk : Nat) (σ : pm_S) (c : pg_C) (h : rp_H) (s k b : Nat), s ≤ 2000 → rp_T2 t M n σ c h s 8 → (σ.1 10 6 = 0 → xs_t body σ k b ∧ b < h.1 ∧ k ≤ c.2.2 ∧ 61 ≤ f + 1 + c.2.2 ∧ n ≤ c.1 + kk) → b < h.1 →
      (∀ σ' h', rp_T2 t M n σ' (pg_whl (pg_any (pt_T t M n) xs_bg) (pg_stmt (pt_T t M n) (pg_B (pt_T t M n) f)) kk c).1 h' s 8 → rp_Ew t M n σ h σ' h' b (pg_whl (pg_any (pt_T t M n) xs_bg) (pg_stmt (pt_T t M n) (pg_B (pt_T t M n) f)) kk c).2 → (σ'.1 10 6 = 0 → xs_N σ k σ' ∧ σ'.1 10 34 = nI k ∧ pg_any (pt_T t M n) xs_bg (pg_whl (pg_any (pt_T t M n) xs_bg) (pg_stmt (pt_T t M n) (pg_B (pt_T t M n) f)) kk c).1 = false) → W σ') → W σ := by
      intro kk
      induction kk with
      | zero =>
        intro σ c h s k b hs hT hl hb hX
        by_cases z : σ.1 10 6 = 0
        · have h1 := (hl z).2.2.2.2
          have h2 := hT.1.1.2.1
          omega
        · exact hX σ h hT rp_Ewr (fun y => absurd y z)
      | succ kk ih =>
        intro σ c h s k b hs hT hl hb hX
        rw [pg_whl_c] at hX
        by_cases z : σ.1 10 6 = 0
        · obtain ⟨h1, h2, h3, h4, h5⟩ := hl z
          cases q : pg_any (pt_T t M n) xs_bg c with
          | true =>
            rw [if_pos q, pg_seq_c] at hX
            refine xs_stmt hN I hB ⟨hs, rp_t1 hT z, z, h1, h2, h3⟩ h4 q (fun σ1 h1' a1 a2 a3 => ?_)
            refine ih σ1 _ h1' s k b hs a1 (fun y => ?_) (Nat.lt_of_lt_of_le hb a2.1.2.1) (fun σ' h' b1 b2 b3 => hX σ' h' b1 (rp_Ewt hb a2 b2) (fun y => ⟨xs_Nt (Nat.le_refl _) (a3 (b2.1.2.2.1 y)).1 (b3 y).1, (b3 y).2⟩))
            have lv := rp_lv a1.1 y
            have o1 := pg_ostmt (pg_oB (pt_T t M n) f) (pg_dB (pt_T t M n) f) c lv
            have i1 := xs_stn (xs_iB (pt_T t M n) f) lv
            refine ⟨⟨(a3 y).2, ?_⟩, Nat.lt_of_lt_of_le hb a2.1.2.1, by omega, by omega, by omega⟩
            rcases h1.2 with w | ⟨j, w, w1, w2, w3, w4, w5⟩
            · exact Or.inl w
            · obtain ⟨e1, e2, e3⟩ := (a3 y).1 j (by omega)
              exact Or.inr ⟨j, w, w1, e1.trans w2, w3, w4, e3.trans w5⟩
          | false =>
            rw [if_neg (by rw [q]; decide)] at hX
            exact hX σ h hT rp_Ewr (fun y => ⟨xs_Nr, h1.1, q⟩)
        · have g := pg_gany (pt_T t M n) (ks := xs_bg) (by decide) c (rp_dd hT.1 z)
          rw [if_neg (by rw [g]; decide)] at hX
          exact hX σ h hT rp_Ewr (fun y => absurd y z)
    intro σ c h s k b hs hT hl hX
    have e0 : pg_B (pt_T t M n) (f + 1) = pg_whl (pg_any (pt_T t M n) xs_bg) (pg_stmt (pt_T t M n) (pg_B (pt_T t M n) f)) pg_M := rfl
    rw [e0] at hX
    obtain ⟨K, eK⟩ : ∃ K, K = pg_M := ⟨_, rfl⟩
    have eM : K = 8192 := eK
    rw [← eK] at hX
    clear eK
    by_cases z : σ.1 10 6 = 0
    · have hm1 := hN.1
      have hn2 := hN.2.2.2.1
      obtain ⟨h1, h2, h3, h4, h5⟩ := hl z
      exact key K σ c h s k b hs hT (fun _ => ⟨h1, h2, h3, h4, by omega⟩) h2 hX
    · have g := pg_gany (pt_T t M n) (ks := xs_bg) (by decide) c (rp_dd hT.1 z)
      have e1 : pg_whl (pg_any (pt_T t M n) xs_bg) (pg_stmt (pt_T t M n) (pg_B (pt_T t M n) f)) K c = (c, []) := by
        rw [eM]
        show (if pg_any (pt_T t M n) xs_bg c = true then _ else _) = _
        rw [if_neg (by rw [g]; decide)]
        rfl
      rw [e1] at hX
      exact hX σ h hT rp_Ewr (fun y => absurd y z)
