/-! nodes: made, added -/
def rp_nw (h : rp_H) : rp_H := (h.1 + 1, hp_k h.2 h.1 [])
def rp_ad (h : rp_H) (to e : Nat) : rp_H := (h.1, hp_k h.2 to (h.2 to ++ [e]))
def rp_in (h : rp_H) (to : Nat) : rp_H := rp_ad (rp_nw h) to h.1
def rp_M (σ : pm_S) (a : Nat) (σ' : pm_S) (x y z : Int32) : Prop := rp_D σ σ' ∧ (σ'.1 10 6 = 0 → σ.1 10 6 = 0) ∧ (σ'.2.2 49 a = x ∧ σ'.2.2 50 a = y ∧ σ'.2.2 51 a = z) ∧ ∀ b, b ≠ a → σ'.2.2 49 b = σ.2.2 49 b ∧ σ'.2.2 50 b = σ.2.2 50 b ∧ σ'.2.2 51 b = σ.2.2 51 b
theorem rp_Mh {t : Nat → Nat} {M n : Nat} {σ σ' : pm_S} {a : Nat} {x y z : Int32} (m : rp_M σ a σ' x y z) {b : Nat} (hb : b ≠ a) {q : pg_N} (hq : rp_h t M n σ b q) : rp_h t M n σ' b q := by
  obtain ⟨e1, e2, e3⟩ := m.2.2.2 b hb
  unfold rp_h at *
  rw [e1, e2, e3]
  exact hq
theorem rp_Mk {σ σ' σ'' : pm_S} {a : Nat} {x y z : Int32} (m : rp_M σ a σ' x y z) (k : rp_K σ' σ'') : rp_M σ a σ'' x y z := by
  obtain ⟨m1, m2, m3, m4⟩ := m
  have e49 := (k.1.2.2 49).resolve_left (by omega)
  have e50 := (k.1.2.2 50).resolve_left (by omega)
  have e51 := (k.1.2.2 51).resolve_left (by omega)
  unfold rp_M
  rw [e49, e50, e51]
  exact ⟨rp_Dt m1 (rp_Df k.1), fun z => m2 (k.2 z), m3, m4⟩
theorem rp_Mw {σ σ' : pm_S} {a : Nat} {x y z w : Int32} (m : rp_M σ a σ' x y z) : rp_M σ a (pm_pr σ' 51 (upd (σ'.2.2 51) a w)) x y w := by
  obtain ⟨m1, m2, m3, m4⟩ := m
  refine ⟨rp_Dt m1 ⟨fun _ _ => Or.inr rfl, fun _ => Or.inr rfl, fun k => ?_⟩, m2, ⟨m3.1, m3.2.1, ?_⟩, fun b hb => ⟨(m4 b hb).1, (m4 b hb).2.1, ?_⟩⟩
  · by_cases q : k = 51
    · left; omega
    · right; exact pm_rne q
  · rw [pm_r22, pk_us]
  · rw [pm_r22, pk_un hb]; exact (m4 b hb).2.2
theorem rp_hl {σ : pm_S} {h : rp_H} (e : rh_K σ h.1 h.2) {a x : Nat} (ha : a < h.1) (hx : x ∈ h.2 a) : x < h.1 := by
  obtain ⟨j, hj⟩ := List.getElem?_of_mem hx
  exact (e.2.2.1.2.1 a ha j x hj).1
theorem rp_fn {σ : pm_S} {h : rp_H} (e : rh_K σ h.1 h.2) : rp_f (rp_nw h) h.1 := fun a ha hx => by
  have ha : a < h.1 + 1 := ha
  have hx : h.1 ∈ hp_k h.2 h.1 [] a := hx
  by_cases q : a = h.1
  · rw [q, hp_ke] at hx; exact absurd hx List.not_mem_nil
  · rw [hp_kn q] at hx
    have := rp_hl e (show a < h.1 by omega) hx
    omega
theorem rp_fw {h : rp_H} {x : Nat} (f : rp_f h x) : rp_f (rp_nw h) x := fun a ha hx => by
  have ha : a < h.1 + 1 := ha
  have hx : x ∈ hp_k h.2 h.1 [] a := hx
  by_cases q : a = h.1
  · rw [q, hp_ke] at hx; exact absurd hx List.not_mem_nil
  · rw [hp_kn q] at hx; exact f a (by omega) hx
theorem rp_fa {h : rp_H} {to e x : Nat} (ht : to < h.1) (hx : x ≠ e) (f : rp_f h x) : rp_f (rp_ad h to e) x := fun a ha hm => by
  have hm : x ∈ hp_k h.2 to (h.2 to ++ [e]) a := hm
  by_cases q : a = to
  · rw [q, hp_ke] at hm
    rcases List.mem_append.mp hm with z | z
    · exact f to ht z
    · exact hx (List.mem_singleton.mp z)
  · rw [hp_kn q] at hm; exact f a ha hm
theorem pm_p22 {σ : pm_S} {a b : Nat} {x : Int32} : (pm_pi σ a b x).2.2 = σ.2.2 := rfl
theorem rm_rk {σ : pm_S} {m k : Nat} {x y z : Int32} (h : ¬ (49 ≤ k ∧ k ≤ 58)) : (rm_mk σ m x y z).2.2 k = σ.2.2 k := by
  unfold rm_mk
  rw [pm_p22, pm_rne (by omega), pm_rne (by omega), pm_rne (by omega), pm_rne (by omega), pm_rne (by omega), pm_rne (by omega), pm_rne (by omega), pm_rne (by omega), pm_rne (by omega), pm_rne (by omega)]
theorem rm_r1 {σ : pm_S} {m b : Nat} {x y z : Int32} (a : Nat) (h : b ≠ 15) : (rm_mk σ m x y z).1 a b = σ.1 a b := by
  unfold rm_mk
  show (if a = 10 then (if b = 15 then nI (m + 1) else σ.1 a b) else σ.1 a b) = _
  rw [if_neg h]
  split <;> rfl
theorem rp_Kn {σ : pm_S} {m : Nat} {x y z : Int32} : rp_M σ m (rm_mk σ m x y z) x y z := by
  refine ⟨⟨fun a b => ?_, fun _ => Or.inr rfl, fun k => ?_⟩, fun z => z, ⟨?_, ?_, ?_⟩, fun b hb => ⟨?_, ?_, ?_⟩⟩
  · by_cases q : a = 10
    · by_cases q2 : b = 15
      · left; omega
      · right; exact rm_r1 a q2
    · right
      unfold rm_mk
      show (if a = 10 then (if b = 15 then nI (m + 1) else σ.1 a b) else σ.1 a b) = _
      rw [if_neg q]
  · by_cases q : 44 ≤ k ∧ k ≤ 60
    · exact Or.inl q
    · right
      exact rm_rk (by omega)
  · show upd (σ.2.2 49) m x m = x; exact pk_us
  · show upd (σ.2.2 50) m y m = y; exact pk_us
  · show upd (σ.2.2 51) m z m = z; exact pk_us
  · show upd (σ.2.2 49) m x b = _; exact pk_un hb
  · show upd (σ.2.2 50) m y b = _; exact pk_un hb
  · show upd (σ.2.2 51) m z b = _; exact pk_un hb
theorem rp_Tm {t : Nat → Nat} {M n : Nat} {σ σ' : pm_S} {c : pg_C} (hT : rf_T σ t M n c) (e : ∀ b, b ≤ 9 → σ'.1 10 b = σ.1 10 b) (el : σ'.2.1 = σ.2.1) (ea : ∀ k, k = 43 ∨ k = 44 ∨ k = 45 ∨ k = 46 ∨ k = 48 → σ'.2.2 k = σ.2.2 k) : rf_T σ' t M n c := by
  obtain ⟨hT1, hc, hL, hD⟩ := hT
  refine ⟨?_, hc, fun z => ?_, fun z => ?_⟩
  · obtain ⟨x1, x2, x3, x4⟩ := hT1
    exact ⟨(e 1 (by omega)).trans x1, x2, fun i => by rw [ea 43 (by omega)]; exact x3 i, x4⟩
  · have := hL z
    unfold rx_N at *
    rw [e 6 (by omega), e 2 (by omega), e 3 (by omega), e 4 (by omega), e 5 (by omega), e 8 (by omega), e 9 (by omega), el, ea 44 (by omega), ea 45 (by omega), ea 46 (by omega), ea 48 (by omega)]
    exact this
  · have := hD z
    rw [e 6 (by omega), e 7 (by omega)]
    exact this
theorem rp_lt {t : Nat → Nat} {M n : Nat} {σ : pm_S} {c : pg_C} {h : rp_H} {s : Nat} (hN : rp_n t M n) (hS : rp_S t M n σ c h s) (hs : s ≤ 3000) : h.1 < 20000 := by
  have h1 := hS.1.2.1
  have h2 := hS.2.2
  have h3 := hN.2.2.2.1
  have h4 := hN.1
  omega
theorem rp_mk {d : Nat} {σ : pm_S} {Q : Option Value → pm_S → Prop} {t : Nat → Nat} {M n : Nat} {c : pg_C} {h : rp_H} {s : Nat} {x y z : Int32} (hN : rp_n t M n) (hs : s ≤ 3000) (hS : rp_S t M n σ c h s) (hQ : ∀ σ', rp_S t M n σ' c (rp_nw h) (s + 1) → rp_M σ h.1 σ' x y z → Q (some (.int (nI h.1))) σ') : pm_call pm_Y0 (d + 1) 202 [.ref 10, .int x, .int y, .int z] σ Q := by
  have hlt := rp_lt hN hS hs
  refine sp202 hS.2.1.1 hlt (hQ _ ⟨rp_Tm hS.1 (fun b hb => ?_) rfl (fun k hk => ?_), rh_mk hS.2.1 hlt, by have := hS.2.2; show h.1 + 1 ≤ _; omega⟩ rp_Kn)
  · exact rm_r1 10 (by omega)
  · exact rm_rk (by omega)
theorem rp_add {d : Nat} {σ : pm_S} {Q : Option Value → pm_S → Prop} {t : Nat → Nat} {M n : Nat} {c : pg_C} {h : rp_H} {s : Nat} {to e : Nat} (hS : rp_S t M n σ c h s) (ht : to < h.1) (he : e < h.1) (hf : rp_f h e) (hQ : ∀ σ', rp_S t M n σ' c (rp_ad h to e) s → rh_F σ σ' → Q none σ') : pm_call pm_Y0 (d + 1) 227 [.ref 10, .int (nI to), .int (nI e)] σ Q := by
  refine sp227 hS.2.1 ht he (fun a ha => hf a ha) (fun σ' hK hF => hQ σ' ⟨rp_Tm hS.1 (fun b hb => by rw [hF.1]) hF.2.1 (fun k hk => (hF.2.2 k).resolve_left (by omega)), hK, hS.2.2⟩ hF)
theorem rp_Fm {σ σ' σ'' : pm_S} {a : Nat} {x y z : Int32} (m : rp_M σ a σ' x y z) (hF : rh_F σ' σ'') : rp_M σ a σ'' x y z := by
  obtain ⟨m1, m2, m3, m4⟩ := m
  unfold rp_M
  rw [(hF.2.2 49).resolve_left (by omega), (hF.2.2 50).resolve_left (by omega), (hF.2.2 51).resolve_left (by omega), hF.1]
  refine ⟨rp_Dt m1 ⟨fun a b => Or.inr (by rw [hF.1]), fun k => Or.inr (by rw [hF.2.1]), fun k => ?_⟩, m2, m3, m4⟩
  rcases hF.2.2 k with z | z
  · left; omega
  · exact Or.inr z
theorem rp_mkin {d : Nat} {σ : pm_S} {Q : Option Value → pm_S → Prop} {t : Nat → Nat} {M n : Nat} {c : pg_C} {h : rp_H} {s : Nat} {x y z : Int32} {to : Nat} (hN : rp_n t M n) (hs : s ≤ 3000) (ht : to < h.1) (hS : rp_S t M n σ c h s) (hQ : ∀ σ', rp_S t M n σ' c (rp_in h to) (s + 1) → rp_M σ h.1 σ' x y z → Q (some (.int (nI h.1))) σ') : pm_call pm_Y0 (d + 2) 226 [.ref 10, .int (nI to), .int x, .int y, .int z] σ Q := by
  refine wq_m m226 (Nat.le_of_ble_eq_true rfl) (by decide) rfl ?_
  refine wq_l 1 d226_0 rfl rfl rfl rfl ?_
  refine wq_l 2 d226_1 rfl rfl rfl rfl ?_
  refine wq_l 3 d226_2 rfl rfl rfl rfl ?_
  refine wq_l 5 d226_3 rfl rfl rfl rfl ?_
  refine wq_v 8 [_, _, _] d226_5 rfl rfl m202 rfl rfl (Nat.le_of_ble_eq_true rfl) rfl (rp_mk hN hs hS (fun σ1 h1 m1 => ?_))
  refine wq_s 10 d226_8 rfl rfl (Nat.le_of_ble_eq_true rfl) rfl rfl ?_
  refine wq_l 11 d226_10 rfl rfl rfl rfl ?_
  refine wq_l 12 d226_11 rfl rfl rfl rfl ?_
  refine wq_l 14 d226_12 rfl rfl rfl rfl ?_
  refine wq_v 17 [_, _] d226_14 rfl rfl m227 rfl rfl (Nat.le_of_ble_eq_true rfl) rfl (rp_add h1 (Nat.lt_succ_of_lt ht) (Nat.lt_succ_self _) (rp_fn hS.2.1) (fun σ2 h2 f2 => ?_))
  refine wq_l 19 d226_17 rfl rfl rfl rfl ?_
  refine wq_ri d226_19 (rfl) ?_
  exact hQ _ h2 (rp_Fm m1 f2)
/-- a node below `to`, and what came below it -/
theorem rp_Mn {t : Nat → Nat} {M n : Nat} {σ σ1 σ2 : pm_S} {h h2 : rp_H} {to k p : Nat} {x y z v : Int32} {l : List pg_N} (ht : to < h.1) (m : rp_M σ h.1 σ1 x y z) (e : rp_E t M n σ1 (rp_in h to) σ2 h2 h.1 l) (hy : σ2.1 10 6 = 0 → x = nI k ∧ y = nI p ∧ rp_V t M n k z v) : rp_E t M n σ h σ2 h2 to ((k, p, v, l.length + 1) :: l) := by
  obtain ⟨e1, e2, e3, e4, e5⟩ := e
  have e2 : h.1 + 1 ≤ h2.1 := e2
  refine ⟨rp_Dt m.1 e1, by omega, fun q => m.2.1 (e3 q), fun w hw hf => e4 w (Nat.lt_succ_of_lt hw) (rp_fa (h := rp_nw h) (Nat.lt_succ_of_lt ht) (by omega) (rp_fw hf)), fun q => ?_⟩
  obtain ⟨g1, L, g2, g3⟩ := e5 q
  obtain ⟨y1, y2, y3⟩ := hy q
  have g1 : h2.1 = h.1 + 1 + l.length := g1
  refine ⟨by rw [List.length_cons]; omega, ((k, p, v, l.length + 1), h.1) :: L, by rw [List.map_cons, g2], hp_En ht (fun a ha => ?_) ?_ (fun a ha q hq => rp_Mh m (by omega) hq) g3 (by rw [← g2, List.length_map]) (g3.2.2.2.1 h.1 (Nat.lt_succ_self _) _ ⟨m.2.2.1.1.trans y1, m.2.2.1.2.1.trans y2, by rw [m.2.2.1.2.2]; exact y3⟩)⟩
  · show hp_k (hp_k h.2 h.1 []) to (hp_k h.2 h.1 [] to ++ [h.1]) a = _
    rw [hp_kn (a := h.1) (b := to) (by omega)]
    by_cases q : a = to
    · rw [q, hp_ke, if_pos rfl]
    · rw [hp_kn q, if_neg q, hp_kn (by omega)]
  · show hp_k (hp_k h.2 h.1 []) to (hp_k h.2 h.1 [] to ++ [h.1]) h.1 = _
    rw [hp_kn (by omega), hp_ke]
theorem rp_li {h : rp_H} {to : Nat} : h.1 < (rp_in h to).1 := Nat.lt_succ_self _
theorem rp_lw {h : rp_H} : h.1 < (rp_nw h).1 := Nat.lt_succ_self _
/-- a tree that hangs nowhere yet, of root e -/
def hp_G (n : Nat) (K : Nat → List Nat) (H : Nat → pg_N → Prop) (n' : Nat) (K' : Nat → List Nat) (H' : Nat → pg_N → Prop) (L : List hp_N) : Prop :=
  n ≤ n' ∧ (∀ a, a < n → K' a = K a) ∧ (∀ a, a < n → ∀ h, H a h → H' a h) ∧ hp_R K' H' n' L ∧ (∀ x ∈ L, n ≤ x.2) ∧ hp_c L
def rp_W (σ : pm_S) (h : rp_H) (σ' : pm_S) (h' : rp_H) : Prop := rp_D σ σ' ∧ h.1 ≤ h'.1 ∧ (σ'.1 10 6 = 0 → σ.1 10 6 = 0) ∧ (∀ x, x < h.1 → rp_f h x → rp_f h' x)
def rp_O (t : Nat → Nat) (M n : Nat) (σ : pm_S) (h : rp_H) (σ' : pm_S) (h' : rp_H) (e : Nat) (l : List pg_N) : Prop :=
  rp_W σ h σ' h' ∧ (h.1 ≤ e ∧ e < h'.1 ∧ rp_f h' e) ∧
  (σ'.1 10 6 = 0 → h'.1 = h.1 + l.length ∧ ∃ L : List hp_N, L.map (·.1) = l ∧ hp_G h.1 h.2 (rp_h t M n σ) h'.1 h'.2 (rp_h t M n σ') L ∧ hp_t L = [e])
theorem rp_Mo {t : Nat → Nat} {M n : Nat} {σ σ1 σ2 : pm_S} {h h2 : rp_H} {k p : Nat} {x y z v : Int32} {l : List pg_N} (hK : rh_K σ h.1 h.2) (m : rp_M σ h.1 σ1 x y z) (e : rp_E t M n σ1 (rp_nw h) σ2 h2 h.1 l) (hy : σ2.1 10 6 = 0 → x = nI k ∧ y = nI p ∧ rp_V t M n k z v) : rp_O t M n σ h σ2 h2 h.1 ((k, p, v, l.length + 1) :: l) := by
  obtain ⟨e1, e2, e3, e4, e5⟩ := e
  have e2 : h.1 + 1 ≤ h2.1 := e2
  refine ⟨⟨rp_Dt m.1 e1, by omega, fun q => m.2.1 (e3 q), fun w hw hf => e4 w (Nat.lt_succ_of_lt hw) (rp_fw hf)⟩, ⟨Nat.le_refl _, by omega, e4 h.1 (Nat.lt_succ_self _) (rp_fn hK)⟩, fun q => ?_⟩
  obtain ⟨g1, L, g2, g3⟩ := e5 q
  obtain ⟨y1, y2, y3⟩ := hy q
  have g1 : h2.1 = h.1 + 1 + l.length := g1
  obtain ⟨b1, b2, b3, b4, b5, b6, b7⟩ := g3
  have b3 : h2.2 h.1 = hp_k h.2 h.1 [] h.1 ++ hp_t L := b3
  rw [hp_ke, List.nil_append] at b3
  have hs : hp_sz ((k, p, v, l.length + 1), h.1) = L.length + 1 := by rw [← g2, List.length_map]; rfl
  refine ⟨by rw [List.length_cons]; omega, ((k, p, v, l.length + 1), h.1) :: L, by rw [List.map_cons, g2], ⟨by omega, fun a ha => ?_, fun a ha q hq => b4 a (Nat.lt_succ_of_lt ha) q (rp_Mh m (by omega) hq), ⟨⟨by show h.1 < h2.1; omega, b4 h.1 (Nat.lt_succ_self _) _ ⟨m.2.2.1.1.trans y1, m.2.2.1.2.1.trans y2, by rw [m.2.2.1.2.2]; exact y3⟩, ?_⟩, b5⟩, fun y hy => ?_, hp_cn b7 hs⟩, hp_tn hs⟩
  · rw [b2 a (Nat.lt_succ_of_lt ha) (by omega)]; exact hp_kn (by omega)
  · rw [hs, Nat.add_sub_cancel, List.take_length]; exact b3
  · rcases List.mem_cons.mp hy with q | q
    · rw [q]; exact Nat.le_refl _
    · have : h.1 + 1 ≤ y.2 := b6 y q
      omega
/-- and put below `to` -/
theorem rp_Oa {t : Nat → Nat} {M n : Nat} {σ σ1 σ2 : pm_S} {h h1 : rp_H} {to e : Nat} {l : List pg_N} (ht : to < h.1) (o : rp_O t M n σ h σ1 h1 e l) (hF : rh_F σ1 σ2) : rp_E t M n σ h σ2 (rp_ad h1 to e) to l := by
  obtain ⟨⟨w1, w2, w3, w4⟩, ⟨o1, o2, o3⟩, o4⟩ := o
  have hD : rp_D σ1 σ2 := ⟨fun a b => Or.inr (by rw [hF.1]), fun k => Or.inr (by rw [hF.2.1]), fun k => by rcases hF.2.2 k with z | z; (left; omega); exact Or.inr z⟩
  have ef : σ2.1 10 6 = σ1.1 10 6 := by rw [hF.1]
  have eh : ∀ a q, rp_h t M n σ1 a q → rp_h t M n σ2 a q := fun a q hq => by
    unfold rp_h at *
    rw [(hF.2.2 49).resolve_left (by omega), (hF.2.2 50).resolve_left (by omega), (hF.2.2 51).resolve_left (by omega)]
    exact hq
  refine ⟨rp_Dt w1 hD, w2, fun z => w3 (ef ▸ z), fun x hx hf => rp_fa (by omega) (by omega) (w4 x hx hf), fun z => ?_⟩
  obtain ⟨g1, L, g2, ⟨b1, b2, b3, b4, b5, b6⟩, g4⟩ := o4 (ef ▸ z)
  refine ⟨g1, L, g2, b1, fun a ha hne => (hp_kn hne).trans (b2 a ha), ?_, fun a ha q hq => eh a q (b3 a ha q hq), hp_Rm (Nat.le_refl _) (fun x hx hxn => ⟨hp_kn ?_, fun q hq => eh _ q hq⟩) b4, b5, b6⟩
  · show hp_k h1.2 to (h1.2 to ++ [e]) to = _
    rw [hp_ke, b2 to ht, g4]
  · have := b5 x hx
    omega
