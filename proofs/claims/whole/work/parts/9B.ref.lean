/-! EXPRESSIONS: the trees that hang nowhere yet, on the pile, among the operands, in the hand -/
def xe_h (t : Nat → Nat) (M n : Nat) (σ : pm_S) (a : Nat) (x : pg_N) : Prop := σ.2.2 49 a = nI x.1 ∧ (σ.1 10 6 = 0 → rp_h t M n σ a x)
def xe_c : List hp_N → Int32
  | [] => -1
  | x :: _ => nI x.2
def xe_a (A : Nat → Int32) : List (List hp_N) → Prop
  | [] => True
  | T :: F => A F.length = xe_c T ∧ xe_a A F
def xe_n (x : Nat) (T : List hp_N) : Nat := (T.map (·.2)).count x
def xe_s (x : Nat) : List (List hp_N) → Nat
  | [] => 0
  | T :: F => xe_n x T + xe_s x F
def xe_l : List (List hp_N) → Nat
  | [] => 0
  | T :: F => T.length + xe_l F
def xe_g (t : Nat → Nat) (M n : Nat) (σ : pm_S) (h : rp_H) (b : Nat) (T : List hp_N) : Prop :=
  hp_c T ∧ hp_R h.2 (xe_h t M n σ) h.1 T ∧ (∀ y ∈ T, b ≤ y.2) ∧ ∀ x l, T = x :: l → hp_sz x = l.length + 1 ∧ rp_f h x.2
def xe_P : List xm_I → List (List hp_N) → Prop
  | [], [] => True
  | i :: P, T :: F => (i.1 ≤ 99 ∧ (if i.1 = 99 then T = [] else T.map (·.1) = xm_nd i i.2.2.2) ∧ (i.1 = 35 → ∃ g, g ≤ 13 ∧ i.2.2.1 = nI g) ∧ (i.1 = 35 ∨ i.1 = 36 → i.2.2.2 = [])) ∧ xe_P P F
  | _, _ => False
def xe_O : List (List pg_N) → List (List hp_N) → Prop
  | [], [] => True
  | o :: O, T :: F => (T ≠ [] ∧ T.map (·.1) = o) ∧ xe_O O F
  | _, _ => False
def xe_p (σ : pm_S) (F G : List (List hp_N)) : Prop := σ.1 10 27 = nI F.length ∧ σ.1 10 29 = nI G.length ∧ xe_a (σ.2.2 59) F ∧ xe_a (σ.2.2 60) G
def xe_V (t : Nat → Nat) (M n : Nat) (σ0 : pm_S) (h0 : rp_H) (σ : pm_S) (h : rp_H) (F G E : List (List hp_N)) : Prop :=
  (∀ T, (T ∈ F ∨ T ∈ G ∨ T ∈ E) → xe_g t M n σ h h0.1 T) ∧ (∀ x, xe_s x F + xe_s x G + xe_s x E ≤ 1) ∧
  (∀ a, a < h0.1 → h.2 a = h0.2 a ∧ ∀ q, rp_h t M n σ0 a q → rp_h t M n σ a q) ∧ h.1 = h0.1 + (xe_l F + xe_l G + xe_l E)
theorem xe_pl : ∀ {P : List xm_I} {F : List (List hp_N)}, xe_P P F → P.length = F.length
  | [], [], _ => rfl
  | _ :: _, _ :: _, h => by rw [List.length_cons, List.length_cons, xe_pl h.2]
  | [], _ :: _, h => h.elim
  | _ :: _, [], h => h.elim
theorem xe_ol : ∀ {O : List (List pg_N)} {F : List (List hp_N)}, xe_O O F → O.length = F.length
  | [], [], _ => rfl
  | _ :: _, _ :: _, h => by rw [List.length_cons, List.length_cons, xe_ol h.2]
  | [], _ :: _, h => h.elim
  | _ :: _, [], h => h.elim
theorem xe_au {A : Nat → Int32} {k : Nat} {x : Int32} : ∀ {F : List (List hp_N)}, F.length ≤ k → xe_a A F → xe_a (upd A k x) F
  | [], _, _ => trivial
  | T :: F, hk, h => by
    have hk : F.length + 1 ≤ k := hk
    exact ⟨(pk_un (by omega)).trans h.1, xe_au (by omega) h.2⟩
theorem xe_sm {x : Nat} {T : List hp_N} : ∀ {F : List (List hp_N)}, T ∈ F → xe_n x T ≤ xe_s x F
  | [], h => absurd h List.not_mem_nil
  | U :: F, h => by
    show _ ≤ xe_n x U + xe_s x F
    rcases List.mem_cons.mp h with q | q
    · rw [q]; omega
    · have := xe_sm (x := x) q; omega
theorem xe_n1 {x : hp_N} {l : List hp_N} : 1 ≤ xe_n x.2 (x :: l) := by
  unfold xe_n
  rw [List.map_cons, List.count_cons_self]
  omega
theorem xe_nm {x : Nat} {T : List hp_N} (h : xe_n x T = 0) {y : hp_N} (hy : y ∈ T) : y.2 ≠ x := fun q => by
  unfold xe_n at h
  exact List.count_eq_zero.mp h (q ▸ List.mem_map_of_mem hy)
/-- moves of the hand -/
theorem xe_pp {t : Nat → Nat} {M n : Nat} {σ0 σ : pm_S} {h0 h : rp_H} {A : List hp_N} {F G E : List (List hp_N)} : xe_V t M n σ0 h0 σ h (A :: F) G E ↔ xe_V t M n σ0 h0 σ h F G (A :: E) := by
  unfold xe_V
  constructor
  · rintro ⟨a, b, c, d⟩
    refine ⟨fun T hT => a T ?_, fun x => ?_, c, ?_⟩
    · rcases hT with q | q | q
      · exact Or.inl (List.mem_cons_of_mem _ q)
      · exact Or.inr (Or.inl q)
      · rcases List.mem_cons.mp q with q | q
        · exact Or.inl (q ▸ List.mem_cons_self ..)
        · exact Or.inr (Or.inr q)
    · have := b x
      show xe_s x F + xe_s x G + (xe_n x A + xe_s x E) ≤ 1
      have e : xe_s x (A :: F) = xe_n x A + xe_s x F := rfl
      omega
    · rw [d]
      show h0.1 + (A.length + xe_l F + xe_l G + xe_l E) = h0.1 + (xe_l F + xe_l G + (A.length + xe_l E))
      omega
  · rintro ⟨a, b, c, d⟩
    refine ⟨fun T hT => a T ?_, fun x => ?_, c, ?_⟩
    · rcases hT with q | q | q
      · rcases List.mem_cons.mp q with q | q
        · exact Or.inr (Or.inr (q ▸ List.mem_cons_self ..))
        · exact Or.inl q
      · exact Or.inr (Or.inl q)
      · exact Or.inr (Or.inr (List.mem_cons_of_mem _ q))
    · have := b x
      show xe_n x A + xe_s x F + xe_s x G + xe_s x E ≤ 1
      have e : xe_s x (A :: E) = xe_n x A + xe_s x E := rfl
      omega
    · rw [d]
      show h0.1 + (xe_l F + xe_l G + (A.length + xe_l E)) = h0.1 + (A.length + xe_l F + xe_l G + xe_l E)
      omega
theorem xe_fg {t : Nat → Nat} {M n : Nat} {σ0 σ : pm_S} {h0 h : rp_H} {F G E : List (List hp_N)} (v : xe_V t M n σ0 h0 σ h F G E) : xe_V t M n σ0 h0 σ h G F E := by
  obtain ⟨a, b, c, d⟩ := v
  exact ⟨fun T hT => a T (by rcases hT with q | q | q; exact Or.inr (Or.inl q); exact Or.inl q; exact Or.inr (Or.inr q)), fun x => by have := b x; omega, c, by omega⟩
theorem xe_po {t : Nat → Nat} {M n : Nat} {σ0 σ : pm_S} {h0 h : rp_H} {A : List hp_N} {F G E : List (List hp_N)} : xe_V t M n σ0 h0 σ h F (A :: G) E ↔ xe_V t M n σ0 h0 σ h F G (A :: E) :=
  ⟨fun v => xe_fg (xe_pp.mp (xe_fg v)), fun v => xe_fg (xe_pp.mpr (xe_fg v))⟩
theorem xe_sw {t : Nat → Nat} {M n : Nat} {σ0 σ : pm_S} {h0 h : rp_H} {A B : List hp_N} {F G E : List (List hp_N)} (v : xe_V t M n σ0 h0 σ h F G (A :: B :: E)) : xe_V t M n σ0 h0 σ h F G (B :: A :: E) := xe_pp.mp (xe_po.mp (xe_pp.mpr (xe_po.mpr v) |> fun w => xe_fg (xe_fg w)) |> fun w => w)
theorem hp_Rl {K : Nat → List Nat} {H : Nat → pg_N → Prop} {n : Nat} : ∀ {l : List hp_N}, hp_R K H n l → ∀ {x : hp_N}, x ∈ l → x.2 < n
  | [], _, _, h => absurd h List.not_mem_nil
  | y :: l, ⟨⟨a, _, _⟩, b⟩, x, h => by
    rcases List.mem_cons.mp h with q | q
    · rw [q]; exact a
    · exact hp_Rl b q
/-- a tree put below another's root -/
def xe_j : List hp_N → List hp_N → List hp_N
  | [], B => B
  | x :: l, B => ((x.1.1, x.1.2.1, x.1.2.2.1, (l ++ B).length + 1), x.2) :: (l ++ B)
theorem xe_hF {t : Nat → Nat} {M n : Nat} {σ σ' : pm_S} (hF : rh_F σ σ') {a : Nat} {q : pg_N} (hq : rp_h t M n σ a q) : rp_h t M n σ' a q := by
  unfold rp_h at *
  rw [(hF.2.2 49).resolve_left (by omega), (hF.2.2 50).resolve_left (by omega), (hF.2.2 51).resolve_left (by omega)]
  exact hq
theorem xe_hf {t : Nat → Nat} {M n : Nat} {σ σ' : pm_S} (hF : rh_F σ σ') {a : Nat} {q : pg_N} (hq : xe_h t M n σ a q) : xe_h t M n σ' a q := by
  refine ⟨by rw [(hF.2.2 49).resolve_left (by omega)]; exact hq.1, fun z => xe_hF hF (hq.2 (by rw [hF.1] at z; exact z))⟩
theorem xe_hs {t : Nat → Nat} {M n : Nat} {σ : pm_S} {a k p z z' : Nat} {v : Int32} (hq : xe_h t M n σ a (k, p, v, z)) : xe_h t M n σ a (k, p, v, z') := hq
theorem xe_j1 {t : Nat → Nat} {M n b : Nat} {σ σ' : pm_S} {h : rp_H} {x y : hp_N} {la lb : List hp_N} (hF : rh_F σ σ') (ga : xe_g t M n σ h b (x :: la)) (gb : xe_g t M n σ h b (y :: lb)) (na : xe_n x.2 la = 0) (nb : xe_n x.2 (y :: lb) = 0) : xe_g t M n σ' (rp_ad h x.2 y.2) b (xe_j (x :: la) (y :: lb)) := by
  obtain ⟨a1, ⟨⟨a2, a3, a4⟩, a5⟩, a6, a7⟩ := ga
  obtain ⟨b1, b2, b6, b7⟩ := gb
  obtain ⟨s1, f1⟩ := a7 x la rfl
  obtain ⟨s2, f2⟩ := b7 y lb rfl
  obtain ⟨c1, _, _⟩ := hp_c_tail a1
  have hc : hp_c (la ++ y :: lb) := hp_ca c1 b1
  rw [s1, Nat.add_sub_cancel, List.take_length] at a4
  have hxy : x.2 ≠ y.2 := fun q => by
    have := xe_n1 (x := y) (l := lb)
    rw [← q] at this
    omega
  have ms : ∀ z ∈ la ++ y :: lb, z.2 ≠ x.2 := fun z hz => by
    rcases List.mem_append.mp hz with q | q
    · exact xe_nm na q
    · exact xe_nm nb q
  refine ⟨hp_cn hc rfl, ⟨⟨a2, ?_, ?_⟩, hp_Rm (Nat.le_refl _) (fun z hz _ => ⟨hp_kn (ms z hz), fun q hq => xe_hf hF hq⟩) ((hp_Ra c1).mpr ⟨a5, b2⟩)⟩, fun z hz => ?_, fun z l e => ?_⟩
  · exact xe_hf hF (xe_hs (p := x.1.2.1) (v := x.1.2.2.1) (z := x.1.2.2.2) a3)
  · show hp_k h.2 x.2 (h.2 x.2 ++ [y.2]) x.2 = hp_t ((la ++ y :: lb).take ((la ++ y :: lb).length + 1 - 1))
    rw [hp_ke, Nat.add_sub_cancel, List.take_length, hp_ta c1, a4, hp_tn s2]
  · rcases List.mem_cons.mp hz with q | q
    · rw [q]; exact a6 x (List.mem_cons_self ..)
    · rcases List.mem_append.mp q with q | q
      · exact a6 z (List.mem_cons_of_mem _ q)
      · exact b6 z q
  · cases e
    exact ⟨rfl, rp_fa a2 hxy f1⟩
theorem xe_j2 {t : Nat → Nat} {M n b a e : Nat} {σ σ' : pm_S} {h : rp_H} {T : List hp_N} (hF : rh_F σ σ') (ha : a < h.1) (g : xe_g t M n σ h b T) (na : xe_n a T = 0) (nb : xe_n e T = 0) : xe_g t M n σ' (rp_ad h a e) b T := by
  obtain ⟨a1, a2, a3, a4⟩ := g
  refine ⟨a1, hp_Rm (Nat.le_refl _) (fun z hz _ => ⟨hp_kn (xe_nm na hz), fun q hq => xe_hf hF hq⟩) a2, a3, fun x l q => ⟨(a4 x l q).1, rp_fa ha ?_ (a4 x l q).2⟩⟩
  exact xe_nm nb (q ▸ List.mem_cons_self ..)
theorem xe_jn {t : Nat → Nat} {M n : Nat} {σ0 σ σ' : pm_S} {h0 h : rp_H} {x y : hp_N} {la lb : List hp_N} {F G E : List (List hp_N)} (hF : rh_F σ σ') (v : xe_V t M n σ0 h0 σ h F G ((x :: la) :: (y :: lb) :: E)) : xe_V t M n σ0 h0 σ' (rp_ad h x.2 y.2) F G (xe_j (x :: la) (y :: lb) :: E) := by
  obtain ⟨v1, v2, v3, v4⟩ := v
  have ga := v1 (x :: la) (Or.inr (Or.inr (List.mem_cons_self ..)))
  have gb := v1 (y :: lb) (Or.inr (Or.inr (List.mem_cons_of_mem _ (List.mem_cons_self ..))))
  have e1 : ∀ z, xe_n z (x :: la) = (if x.2 = z then 1 else 0) + xe_n z la := fun z => by
    unfold xe_n
    rw [List.map_cons, List.count_cons]
    by_cases q : x.2 = z
    · rw [if_pos q, if_pos (by rw [q]; exact beq_self_eq_true z)]; omega
    · rw [if_neg q, if_neg (by simpa using q)]; omega
  have es : ∀ z, xe_s z ((x :: la) :: (y :: lb) :: E) = xe_n z (x :: la) + (xe_n z (y :: lb) + xe_s z E) := fun _ => rfl
  have hx := v2 x.2
  have hy := v2 y.2
  rw [es] at hx hy
  have nx := xe_n1 (x := x) (l := la)
  have ny := xe_n1 (x := y) (l := lb)
  have na : xe_n x.2 la = 0 := by have := e1 x.2; rw [if_pos rfl] at this; omega
  have ha : x.2 < h.1 := ga.2.1.1.1
  refine ⟨fun T hT => ?_, fun z => ?_, fun a ha => ⟨(hp_kn ?_).trans (v3 a ha).1, fun q hq => xe_hF hF ((v3 a ha).2 q hq)⟩, ?_⟩
  · rcases hT with q | q | q
    · have m1 := xe_sm (x := x.2) q
      have m2 := xe_sm (x := y.2) q
      exact xe_j2 hF ha (v1 T (Or.inl q)) (by omega) (by omega)
    · have m1 := xe_sm (x := x.2) q
      have m2 := xe_sm (x := y.2) q
      exact xe_j2 hF ha (v1 T (Or.inr (Or.inl q))) (by omega) (by omega)
    · rcases List.mem_cons.mp q with q | q
      · rw [q]
        exact xe_j1 hF ga gb na (by omega)
      · have m1 := xe_sm (x := x.2) q
        have m2 := xe_sm (x := y.2) q
        exact xe_j2 hF ha (v1 T (Or.inr (Or.inr (List.mem_cons_of_mem _ (List.mem_cons_of_mem _ q))))) (by omega) (by omega)
  · have hz := v2 z
    rw [es, e1] at hz
    have e2 : xe_s z (xe_j (x :: la) (y :: lb) :: E) = (if x.2 = z then 1 else 0) + (xe_n z la + xe_n z (y :: lb)) + xe_s z E := by
      show xe_n z (_ :: (la ++ y :: lb)) + _ = _
      unfold xe_n
      rw [List.map_cons, List.count_cons, List.map_append, List.count_append]
      by_cases q : x.2 = z
      · rw [if_pos q, if_pos (by simpa using q)]; omega
      · rw [if_neg q, if_neg (by simpa using q)]; omega
    omega
  · have := ga.2.2.1 x (List.mem_cons_self ..)
    omega
  · show h.1 = _
    rw [v4]
    show h0.1 + (xe_l F + xe_l G + (la.length + 1 + (lb.length + 1 + xe_l E))) = h0.1 + (xe_l F + xe_l G + ((la ++ y :: lb).length + 1 + xe_l E))
    rw [List.length_append, List.length_cons]
    omega
/-- the hand's join with the pile's top left where it is -/
theorem xe_jp {t : Nat → Nat} {M n : Nat} {σ0 σ σ' : pm_S} {h0 h : rp_H} {x y : hp_N} {la lb : List hp_N} {F G E : List (List hp_N)} (hF : rh_F σ σ') (v : xe_V t M n σ0 h0 σ h ((x :: la) :: F) G ((y :: lb) :: E)) : xe_V t M n σ0 h0 σ' (rp_ad h x.2 y.2) (xe_j (x :: la) (y :: lb) :: F) G E := xe_pp.mpr (xe_jn hF (xe_pp.mp v))
theorem xe_jl {x : hp_N} {la B : List hp_N} : (xe_j (x :: la) B).map (·.1) = (x.1.1, x.1.2.1, x.1.2.2.1, (la.map (·.1) ++ B.map (·.1)).length + 1) :: (la.map (·.1) ++ B.map (·.1)) := by
  show (_ :: List.map _ (la ++ B)) = _
  rw [List.map_append, List.length_append, List.length_append, List.length_map, List.length_map]
/-- a step of the tokens -/
theorem xe_Vk {t : Nat → Nat} {M n : Nat} {σ0 σ σ' : pm_S} {h0 h : rp_H} {F G E : List (List hp_N)} (e : ∀ a, σ'.2.2 49 a = σ.2.2 49 a ∧ σ'.2.2 50 a = σ.2.2 50 a ∧ σ'.2.2 51 a = σ.2.2 51 a) (z : σ'.1 10 6 = 0 → σ.1 10 6 = 0) (v : xe_V t M n σ0 h0 σ h F G E) : xe_V t M n σ0 h0 σ' h F G E := by
  obtain ⟨v1, v2, v3, v4⟩ := v
  have eh : ∀ a q, rp_h t M n σ a q → rp_h t M n σ' a q := fun a q hq => by
    unfold rp_h at *
    rw [(e a).1, (e a).2.1, (e a).2.2]
    exact hq
  refine ⟨fun T hT => ?_, v2, fun a ha => ⟨(v3 a ha).1, fun q hq => eh a q ((v3 a ha).2 q hq)⟩, v4⟩
  obtain ⟨a1, a2, a3, a4⟩ := v1 T hT
  exact ⟨a1, hp_Rm (Nat.le_refl _) (fun y _ _ => ⟨rfl, fun q hq => ⟨by rw [(e y.2).1]; exact hq.1, fun w => eh _ q (hq.2 (z w))⟩⟩) a2, a3, a4⟩
/-- a tree made of new nodes -/
def rp_Oq (t : Nat → Nat) (M n : Nat) (σ : pm_S) (h : rp_H) (σ' : pm_S) (h' : rp_H) (e : Nat) (l : List pg_N) : Prop :=
  rp_W σ h σ' h' ∧ (h.1 ≤ e ∧ e < h'.1 ∧ rp_f h' e) ∧ h'.1 = h.1 + l.length ∧ (∀ a, a < h.1 → ∀ q, rp_h t M n σ a q → rp_h t M n σ' a q) ∧
  (∀ a, a < h.1 → σ'.2.2 49 a = σ.2.2 49 a) ∧ ∃ L : List hp_N, L.map (·.1) = l ∧ hp_t L = [e] ∧ hp_G h.1 h.2 (xe_h t M n σ) h'.1 h'.2 (xe_h t M n σ') L ∧ ∀ z, xe_n z L ≤ 1
theorem hp_t1 {L : List hp_N} {e : Nat} (hc : hp_c L) (h : hp_t L = [e]) : ∃ x l, L = x :: l ∧ x.2 = e ∧ hp_sz x = l.length + 1 := by
  cases L with
  | nil => cases h
  | cons x l =>
    rw [hp_t_c] at h
    obtain ⟨c1, c2, c3⟩ := hp_c_tail hc
    refine ⟨x, l, rfl, (List.cons.inj h).1, ?_⟩
    have h2 := (List.cons.inj h).2
    cases q : l.drop (hp_sz x - 1) with
    | nil =>
      have := congrArg List.length q
      rw [List.length_drop, List.length_nil] at this
      omega
    | cons y m =>
      rw [q, hp_t_c] at h2
      cases h2
theorem rp_Oq_o {t : Nat → Nat} {M n : Nat} {σ σ' : pm_S} {h h' : rp_H} {e : Nat} {l : List pg_N} (o : rp_Oq t M n σ h σ' h' e l) : rp_O t M n σ h σ' h' e l := by
  obtain ⟨a, b, c, d, d', L, e1, e2, ⟨f1, f2, f3, f4, f5, f6⟩, f7⟩ := o
  exact ⟨a, b, fun z => ⟨c, L, e1, ⟨f1, f2, d, hp_Rm (Nat.le_refl _) (fun y _ _ => ⟨rfl, fun q hq => hq.2 z⟩) f4, f5, f6⟩, e2⟩⟩
theorem xe_Vo {t : Nat → Nat} {M n : Nat} {σ0 σ σ' : pm_S} {h0 h h' : rp_H} {e : Nat} {l : List pg_N} {F G E : List (List hp_N)} (o : rp_Oq t M n σ h σ' h' e l) (v : xe_V t M n σ0 h0 σ h F G E) : ∃ x la, x.2 = e ∧ (x :: la).map (·.1) = l ∧ xe_V t M n σ0 h0 σ' h' F G ((x :: la) :: E) := by
  obtain ⟨⟨w1, w2, w3, w4⟩, ⟨b1, b2, b3⟩, c, d, d', L, e1, e2, ⟨f1, f2, f3, f4, f5, f6⟩, f7⟩ := o
  obtain ⟨v1, v2, v3, v4⟩ := v
  obtain ⟨x, la, hL, hx, hs⟩ := hp_t1 f6 e2
  have hb : h0.1 ≤ h.1 := by omega
  refine ⟨x, la, hx, hL ▸ e1, fun T hT => ?_, fun z => ?_, fun a ha => ⟨(f2 a (by omega)).trans (v3 a ha).1, fun q hq => d a (by omega) q ((v3 a ha).2 q hq)⟩, ?_⟩
  · have old : xe_g t M n σ h h0.1 T → xe_g t M n σ' h' h0.1 T := fun g => by
      obtain ⟨a1, a2, a3, a4⟩ := g
      refine ⟨a1, hp_Rm f1 (fun y hy hyn => ⟨f2 y.2 hyn, fun q hq => ⟨by rw [d' y.2 hyn]; exact hq.1, fun w => d _ hyn q (hq.2 (w3 w))⟩⟩) a2, a3, fun y m q => ⟨(a4 y m q).1, w4 _ ?_ (a4 y m q).2⟩⟩
      rw [q] at a2
      exact a2.1.1
    rcases hT with q | q | q
    · exact old (v1 T (Or.inl q))
    · exact old (v1 T (Or.inr (Or.inl q)))
    · rcases List.mem_cons.mp q with q | q
      · rw [q, ← hL]
        refine ⟨f6, f4, fun y hy => Nat.le_trans hb (f5 y hy), fun y m q => ?_⟩
        rw [hL] at q
        cases q
        exact ⟨hs, hx ▸ b3⟩
      · exact old (v1 T (Or.inr (Or.inr q)))
  · -- a new node is in no old tree, an old one not in the new tree
    show xe_s z F + xe_s z G + (xe_n z (x :: la) + xe_s z E) ≤ 1
    by_cases q : h.1 ≤ z
    · have no : ∀ (H : List (List hp_N)), (∀ T ∈ H, xe_g t M n σ h h0.1 T) → xe_s z H = 0 := by
        intro H
        induction H with
        | nil => intro _; rfl
        | cons U H ih =>
          intro hH
          show xe_n z U + xe_s z H = 0
          rw [ih (fun T hT => hH T (List.mem_cons_of_mem _ hT)), Nat.add_zero]
          unfold xe_n
          rw [List.count_eq_zero]
          intro hm
          obtain ⟨y, hy, hz⟩ := List.mem_map.mp hm
          have := hp_Rl (hH U (List.mem_cons_self ..)).2.1 hy
          omega
      rw [no F (fun T hT => v1 T (Or.inl hT)), no G (fun T hT => v1 T (Or.inr (Or.inl hT))), no E (fun T hT => v1 T (Or.inr (Or.inr hT)))]
      have := f7 z
      rw [hL] at this
      omega
    · have : xe_n z (x :: la) = 0 := by
        unfold xe_n
        rw [List.count_eq_zero]
        intro hm
        obtain ⟨y, hy, hz⟩ := List.mem_map.mp hm
        have := f5 y (hL ▸ hy)
        omega
      have := v2 z
      omega
  · rw [c, v4, ← e1, List.length_map, hL]
    show _ = h0.1 + (xe_l F + xe_l G + (la.length + 1 + xe_l E))
    rw [List.length_cons]
    omega
/-- one node -/
theorem rp_Oq1 {t : Nat → Nat} {M n : Nat} {σ σ' : pm_S} {h : rp_H} {k p : Nat} {y z v : Int32} (hK : rh_K σ h.1 h.2) (m : rp_M σ h.1 σ' (nI k) y z) (hy : σ'.1 10 6 = 0 → y = nI p ∧ rp_V t M n k z v) : rp_Oq t M n σ h σ' (rp_nw h) h.1 [(k, p, v, 1)] := by
  have hh : ∀ a, a < h.1 → ∀ q, rp_h t M n σ a q → rp_h t M n σ' a q := fun a ha q hq => rp_Mh m (by omega) hq
  refine ⟨⟨m.1, Nat.le_succ _, m.2.1, fun x hx hf => rp_fw hf⟩, ⟨Nat.le_refl _, Nat.lt_succ_self _, rp_fn hK⟩, rfl, hh, fun a ha => (m.2.2.2 a (by omega)).1, [((k, p, v, 1), h.1)], rfl, rfl, ⟨Nat.le_succ _, fun a ha => hp_kn (by omega), fun a ha q hq => ⟨by rw [(m.2.2.2 a (by omega)).1]; exact hq.1, fun w => hh a ha q (hq.2 (m.2.1 w))⟩, ⟨⟨Nat.lt_succ_self _, ⟨m.2.2.1.1, fun w => ?_⟩, hp_ke⟩, trivial⟩, fun y hy => ?_, hp_cn (l := []) (fun j x h => by simp at h) rfl⟩, fun z => ?_⟩
  · exact ⟨m.2.2.1.1, m.2.2.1.2.1.trans (hy w).1, by rw [m.2.2.1.2.2]; exact (hy w).2⟩
  · rw [List.mem_singleton.mp hy]; exact Nat.le_refl _
  · unfold xe_n
    rw [List.map_cons, List.map_nil, List.count_cons, List.count_nil]
    split <;> omega
theorem rp_Wk {σ0 σ σ' : pm_S} {h0 h : rp_H} (w : rp_W σ0 h0 σ h) (k : rp_K σ σ') : rp_W σ0 h0 σ' h := ⟨rp_Dt w.1 (rp_Df k.1), w.2.1, fun z => w.2.2.1 (k.2 z), w.2.2.2⟩
theorem rp_Wt {σ0 σ σ' : pm_S} {h0 h h' : rp_H} (w : rp_W σ0 h0 σ h) (w' : rp_W σ h σ' h') : rp_W σ0 h0 σ' h' := ⟨rp_Dt w.1 w'.1, Nat.le_trans w.2.1 w'.2.1, fun z => w.2.2.1 (w'.2.2.1 z), fun x hx hf => w'.2.2.2 x (Nat.lt_of_lt_of_le hx w.2.1) (w.2.2.2 x hx hf)⟩
theorem rp_Wr {σ : pm_S} {h : rp_H} : rp_W σ h σ h := ⟨rp_Dr, Nat.le_refl _, fun z => z, fun _ _ z => z⟩
theorem rp_We {t : Nat → Nat} {M n : Nat} {σ σ' : pm_S} {h h' : rp_H} {to : Nat} {l : List pg_N} (e : rp_E t M n σ h σ' h' to l) : rp_W σ h σ' h' := ⟨e.1, e.2.1, e.2.2.1, e.2.2.2.1⟩
theorem rp_Wa {σ0 σ σ' : pm_S} {h0 h : rp_H} {a e : Nat} (w : rp_W σ0 h0 σ h) (hF : rh_F σ σ') (ha : a < h.1) (he : h0.1 ≤ e) : rp_W σ0 h0 σ' (rp_ad h a e) := by
  refine ⟨rp_Dt w.1 ⟨fun a b => Or.inr (by rw [hF.1]), fun k => Or.inr (by rw [hF.2.1]), fun k => by rcases hF.2.2 k with z | z; (left; omega); exact Or.inr z⟩, w.2.1, fun z => w.2.2.1 (by rw [hF.1] at z; exact z), fun x hx hf => rp_fa ha (by omega) (w.2.2.2 x hx hf)⟩
theorem rp_Oqk {t : Nat → Nat} {M n : Nat} {σ σ1 σ2 : pm_S} {h h1 : rp_H} {e : Nat} {l : List pg_N} (o : rp_Oq t M n σ h σ1 h1 e l) (k : rp_K σ1 σ2) : rp_Oq t M n σ h σ2 h1 e l := by
  obtain ⟨a, b, c, d, d', L, e1, e2, ⟨f1, f2, f3, f4, f5, f6⟩, f7⟩ := o
  have e49 := (k.1.2.2 49).resolve_left (by omega)
  have kx : ∀ a q, xe_h t M n σ1 a q → xe_h t M n σ2 a q := fun a q hq => ⟨by rw [e49]; exact hq.1, fun w => rp_Kh k (hq.2 (k.2 w))⟩
  exact ⟨rp_Wk a k, b, c, fun a ha q hq => rp_Kh k (d a ha q hq), fun a ha => by rw [e49]; exact d' a ha, L, e1, e2, ⟨f1, f2, fun a ha q hq => kx a q (f3 a ha q hq), hp_Rm (Nat.le_refl _) (fun y _ _ => ⟨rfl, fun q hq => kx _ q hq⟩) f4, f5, f6⟩, f7⟩
/-- two nodes, one below the other -/
theorem rp_Oq2 {t : Nat → Nat} {M n : Nat} {σ σ1 σ2 σ3 : pm_S} {h : rp_H} {k p k' p' : Nat} {y z v y' z' v' : Int32} (hK : rh_K σ h.1 h.2) (m : rp_M σ h.1 σ1 (nI k) y z) (kk : rp_K σ1 σ2) (m' : rp_M σ2 (h.1 + 1) σ3 (nI k') y' z') (hy : σ3.1 10 6 = 0 → y = nI p ∧ rp_V t M n k z v) (hy' : σ3.1 10 6 = 0 → y' = nI p' ∧ rp_V t M n k' z' v') : rp_Oq t M n σ h σ3 (rp_in (rp_nw h) h.1) h.1 [(k, p, v, 2), (k', p', v', 1)] := by
  have e49 := (kk.1.2.2 49).resolve_left (by omega)
  have e50 := (kk.1.2.2 50).resolve_left (by omega)
  have e51 := (kk.1.2.2 51).resolve_left (by omega)
  have hh : ∀ a, a < h.1 → ∀ q, rp_h t M n σ a q → rp_h t M n σ3 a q := fun a ha q hq => rp_Mh m' (by omega) (rp_Kh kk (rp_Mh m (by omega) hq))
  have h49 : ∀ a, a < h.1 → σ3.2.2 49 a = σ.2.2 49 a := fun a ha => by rw [(m'.2.2.2 a (by omega)).1, e49, (m.2.2.2 a (by omega)).1]
  have hd : ∀ w, σ3.1 10 6 = 0 → rp_h t M n σ3 h.1 (k, p, v, w) := fun w q => rp_Mh m' (by omega) (rp_Kh kk ⟨m.2.2.1.1, m.2.2.1.2.1.trans (hy q).1, by rw [m.2.2.1.2.2]; exact (hy q).2⟩)
  have bk : σ3.1 10 6 = 0 → σ.1 10 6 = 0 := fun w => m.2.1 (kk.2 (m'.2.1 w))
  have ek : ∀ a, (rp_in (rp_nw h) h.1).2 a = if a = h.1 then [h.1 + 1] else if a = h.1 + 1 then [] else h.2 a := fun a => by
    show hp_k (hp_k (hp_k h.2 h.1 []) (h.1 + 1) []) h.1 (hp_k (hp_k h.2 h.1 []) (h.1 + 1) [] h.1 ++ [h.1 + 1]) a = _
    by_cases q : a = h.1
    · rw [if_pos q, q, hp_ke, hp_kn (by omega), hp_ke]; rfl
    · rw [if_neg q, hp_kn q]
      by_cases q2 : a = h.1 + 1
      · rw [if_pos q2, q2, hp_ke]
      · rw [if_neg q2, hp_kn q2, hp_kn q]
  refine ⟨⟨rp_Dt (rp_Dt m.1 (rp_Df kk.1)) m'.1, by show h.1 ≤ h.1 + 1 + 1; omega, bk, fun x hx hf => rp_fa (h := rp_nw (rp_nw h)) (by show h.1 < h.1 + 1 + 1; omega) (by show x ≠ h.1 + 1; omega) (rp_fw (rp_fw hf))⟩, ⟨Nat.le_refl _, by show h.1 < h.1 + 1 + 1; omega, rp_fa (h := rp_nw (rp_nw h)) (by show h.1 < h.1 + 1 + 1; omega) (by show h.1 ≠ h.1 + 1; omega) (rp_fw (rp_fn hK))⟩, rfl, hh, h49, [((k, p, v, 2), h.1), ((k', p', v', 1), h.1 + 1)], rfl, rfl, ⟨by show h.1 ≤ h.1 + 1 + 1; omega, fun a ha => ?_, fun a ha q hq => ⟨by rw [h49 a ha]; exact hq.1, fun w => hh a ha q (hq.2 (bk w))⟩, ⟨⟨by show h.1 < h.1 + 1 + 1; omega, ⟨?_, hd 2⟩, ?_⟩, ⟨by show h.1 + 1 < h.1 + 1 + 1; omega, ⟨m'.2.2.1.1, fun w => ⟨m'.2.2.1.1, m'.2.2.1.2.1.trans (hy' w).1, by rw [m'.2.2.1.2.2]; exact (hy' w).2⟩⟩, ?_⟩, trivial⟩, fun y hy => ?_, hp_cn (l := [_]) (hp_cn (l := []) (fun j x h => by simp at h) rfl) rfl⟩, fun z => ?_⟩
  · rw [ek, if_neg (by omega), if_neg (by omega)]
  · show σ3.2.2 49 h.1 = nI k
    rw [(m'.2.2.2 h.1 (by omega)).1, e49]; exact m.2.2.1.1
  · rw [ek, if_pos rfl]; rfl
  · rw [ek, if_neg (by show ¬ h.1 + 1 = h.1; omega), if_pos rfl]; rfl
  · rcases List.mem_cons.mp hy with q | q
    · rw [q]; exact Nat.le_refl _
    · rw [List.mem_singleton.mp q]; exact Nat.le_succ _
  · unfold xe_n
    rw [List.map_cons, List.map_cons, List.map_nil, List.count_cons, List.count_cons, List.count_nil]
    have : ¬ ((h.1 == z) = true ∧ (h.1 + 1 == z) = true) := by simp; omega
    by_cases q1 : (h.1 == z) = true <;> by_cases q2 : (h.1 + 1 == z) = true
    · exact absurd ⟨q1, q2⟩ this
    · rw [if_pos q1, if_neg q2]; omega
    · rw [if_neg q1, if_pos q2]; omega
    · rw [if_neg q1, if_neg q2]; omega
/-- the end of an expression -/
theorem xe_end {t : Nat → Nat} {M n : Nat} {σ0 σ : pm_S} {h0 h : rp_H} {x : hp_N} {la : List hp_N} {l : List pg_N} (w : rp_W σ0 h0 σ h) (v : xe_V t M n σ0 h0 σ h [] [x :: la] []) (hl : (x :: la).map (·.1) = l) : rp_O t M n σ0 h0 σ h x.2 l := by
  obtain ⟨v1, v2, v3, v4⟩ := v
  obtain ⟨g1, g2, g3, g4⟩ := v1 _ (Or.inr (Or.inl (List.mem_cons_self ..)))
  obtain ⟨g5, g6⟩ := g4 x la rfl
  refine ⟨w, ⟨g3 x (List.mem_cons_self ..), g2.1.1, g6⟩, fun z => ⟨?_, x :: la, hl, ⟨w.2.1, fun a ha => (v3 a ha).1, fun a ha => (v3 a ha).2, hp_Rm (Nat.le_refl _) (fun y _ _ => ⟨rfl, fun q hq => hq.2 z⟩) g2, g3, g1⟩, hp_tn g5⟩⟩
  rw [v4, ← hl, List.length_map]
  show h0.1 + (0 + (la.length + 1 + 0) + 0) = h0.1 + (la.length + 1)
  omega
/-- writes on pile, operands, counts -/
def xe_q (σ σ' : pm_S) : Prop := (∀ a b, (a = 10 ∧ (b = 27 ∨ b = 29 ∨ b = 30)) ∨ σ'.1 a b = σ.1 a b) ∧ σ'.2.1 = σ.2.1 ∧ ∀ k, (k = 59 ∨ k = 60) ∨ σ'.2.2 k = σ.2.2 k
theorem xe_qr {σ : pm_S} : xe_q σ σ := ⟨fun _ _ => Or.inr rfl, rfl, fun _ => Or.inr rfl⟩
theorem xe_qi {σ0 σ : pm_S} {b : Nat} {x : Int32} (q : xe_q σ0 σ) (hb : b = 27 ∨ b = 29 ∨ b = 30) : xe_q σ0 (pm_pi σ 10 b x) := by
  refine ⟨fun a c => ?_, q.2.1, q.2.2⟩
  by_cases h1 : a = 10
  · by_cases h2 : c = b
    · exact Or.inl ⟨h1, h2 ▸ hb⟩
    · rcases q.1 a c with z | z
      · exact Or.inl z
      · right
        show (if a = 10 then (if c = b then x else σ.1 a c) else σ.1 a c) = _
        rw [if_pos h1, if_neg h2, z]
  · rcases q.1 a c with z | z
    · exact Or.inl z
    · right
      show (if a = 10 then (if c = b then x else σ.1 a c) else σ.1 a c) = _
      rw [if_neg h1, z]
theorem xe_qa {σ0 σ : pm_S} {k : Nat} {f : Nat → Int32} (q : xe_q σ0 σ) (hk : k = 59 ∨ k = 60) : xe_q σ0 (pm_pr σ k f) := by
  refine ⟨q.1, q.2.1, fun j => ?_⟩
  by_cases h1 : j = k
  · exact Or.inl (h1 ▸ hk)
  · rcases q.2.2 j with z | z
    · exact Or.inl z
    · right; rw [pm_rne h1, z]
theorem xe_Sq {t : Nat → Nat} {M n : Nat} {σ σ' : pm_S} {c : pg_C} {h : rp_H} {s : Nat} (q : xe_q σ σ') (hS : rp_S t M n σ c h s) : rp_S t M n σ' c h s := by
  refine ⟨rp_Tm hS.1 (fun b hb => (q.1 10 b).resolve_left (by omega)) q.2.1 (fun k hk => (q.2.2 k).resolve_left (by omega)), ?_, hS.2.2⟩
  obtain ⟨k1, k2, k3, k4⟩ := hS.2.1
  refine ⟨((q.1 10 15).resolve_left (by omega)).trans k1, k2, ?_, ?_⟩
  · rw [(q.2.2 52).resolve_left (by omega), (q.2.2 53).resolve_left (by omega), (q.2.2 54).resolve_left (by omega), (q.2.2 55).resolve_left (by omega)]; exact k3
  · rw [(q.2.2 56).resolve_left (by omega), (q.2.2 57).resolve_left (by omega), (q.2.2 58).resolve_left (by omega)]; exact k4
theorem xe_Wq {σ0 σ σ' : pm_S} {h0 h : rp_H} (q : xe_q σ σ') (w : rp_W σ0 h0 σ h) : rp_W σ0 h0 σ' h := by
  refine ⟨rp_Dt w.1 ⟨fun a b => ?_, fun k => Or.inr (by rw [q.2.1]), fun k => ?_⟩, w.2.1, fun z => w.2.2.1 (by rw [(q.1 10 6).resolve_left (by omega)] at z; exact z), w.2.2.2⟩
  · rcases q.1 a b with z | z
    · left; omega
    · exact Or.inr z
  · rcases q.2.2 k with z | z
    · left; omega
    · exact Or.inr z
theorem xe_Vq {t : Nat → Nat} {M n : Nat} {σ0 σ σ' : pm_S} {h0 h : rp_H} {F G E : List (List hp_N)} (q : xe_q σ σ') (v : xe_V t M n σ0 h0 σ h F G E) : xe_V t M n σ0 h0 σ' h F G E :=
  xe_Vk (fun a => by rw [(q.2.2 49).resolve_left (by omega), (q.2.2 50).resolve_left (by omega), (q.2.2 51).resolve_left (by omega)]; exact ⟨rfl, rfl, rfl⟩) (fun z => by rw [(q.1 10 6).resolve_left (by omega)] at z; exact z) v
theorem xe_VK {t : Nat → Nat} {M n : Nat} {σ0 σ σ' : pm_S} {h0 h : rp_H} {F G E : List (List hp_N)} (k : rp_K σ σ') (v : xe_V t M n σ0 h0 σ h F G E) : xe_V t M n σ0 h0 σ' h F G E :=
  xe_Vk (fun a => by rw [(k.1.2.2 49).resolve_left (by omega), (k.1.2.2 50).resolve_left (by omega), (k.1.2.2 51).resolve_left (by omega)]; exact ⟨rfl, rfl, rfl⟩) k.2 v
/-- pile, operands, counts are kept -/
def xe_f (σ σ' : pm_S) : Prop := (σ'.1 10 27 = σ.1 10 27 ∧ σ'.1 10 29 = σ.1 10 29 ∧ σ'.1 10 30 = σ.1 10 30) ∧ σ'.2.2 59 = σ.2.2 59 ∧ σ'.2.2 60 = σ.2.2 60
theorem xe_fr {σ : pm_S} : xe_f σ σ := ⟨⟨rfl, rfl, rfl⟩, rfl, rfl⟩
theorem xe_ft {σ σ1 σ2 : pm_S} (a : xe_f σ σ1) (b : xe_f σ1 σ2) : xe_f σ σ2 := ⟨⟨b.1.1.trans a.1.1, b.1.2.1.trans a.1.2.1, b.1.2.2.trans a.1.2.2⟩, b.2.1.trans a.2.1, b.2.2.trans a.2.2⟩
theorem xe_fk {σ σ' : pm_S} (k : rp_K σ σ') : xe_f σ σ' := ⟨⟨(k.1.1 10 27).resolve_left (by omega), (k.1.1 10 29).resolve_left (by omega), (k.1.1 10 30).resolve_left (by omega)⟩, (k.1.2.2 59).resolve_left (by omega), (k.1.2.2 60).resolve_left (by omega)⟩
theorem xe_fa {σ σ' : pm_S} (hF : rh_F σ σ') : xe_f σ σ' := ⟨⟨by rw [hF.1], by rw [hF.1], by rw [hF.1]⟩, (hF.2.2 59).resolve_left (by omega), (hF.2.2 60).resolve_left (by omega)⟩
theorem xe_pf {σ σ' : pm_S} {F G : List (List hp_N)} (f : xe_f σ σ') (p : xe_p σ F G) : xe_p σ' F G := by
  obtain ⟨⟨a, b, _⟩, c, d⟩ := f
  unfold xe_p at *
  rw [a, b, c, d]
  exact p
theorem rp_dec0 {t : Nat → Nat} {M n : Nat} {σ : pm_S} {c : pg_C} (hT : rf_T σ t M n c) (hc : pg_live (pt_T t M n) c → 1 ≤ c.2.2) : rf_T (pm_pi σ 10 8 (σ.1 10 8 - 1)) t M n (pg_dec c) := by
  obtain ⟨h1, h2, h3, h4⟩ := hT
  refine ⟨h1, h2, fun z => ?_, fun z => h4 z⟩
  have z : pg_live (pt_T t M n) c := z
  obtain ⟨l1, l2, l3, l4, l5, l6, l7, l8⟩ := h3 z
  have h0 := hc z
  refine ⟨l1, l2, l3, l4, l5, rx_N_pi (by decide) l6, ?_, by show c.2.2 - 1 ≤ 60; omega⟩
  show σ.1 10 8 - 1 = nI (c.2.2 - 1)
  rw [l7]
  obtain ⟨k, hk⟩ : ∃ k, c.2.2 = k + 1 := ⟨c.2.2 - 1, by omega⟩
  rw [hk, nI_pred]
  rfl
theorem rp_opn0 {t : Nat → Nat} {M n o : Nat} {σ : pm_S} {c : pg_C} (hT : rf_T σ t M n c) (ho : o ≤ 60) (hl : pg_live (pt_T t M n) c) : rf_T (pm_pi σ 10 8 (nI o)) t M n (c.1, c.2.1, o) := by
  obtain ⟨h1, h2, h3, h4⟩ := hT
  obtain ⟨l1, l2, l3, l4, l5, l6, l7, l8⟩ := h3 hl
  exact ⟨h1, h2, fun _ => ⟨l1, l2, l3, l4, l5, rx_N_pi (by decide) l6, rfl, ho⟩, fun z => absurd (show pg_dead (pt_T t M n) c from z) (pg_ld.mpr hl)⟩
theorem rp_opd0 {t : Nat → Nat} {M n : Nat} {x : Int32} {σ : pm_S} {c : pg_C} (hT : rf_T σ t M n c) (hl : pg_dead (pt_T t M n) c) : rf_T (pm_pi σ 10 8 x) t M n c := by
  obtain ⟨h1, h2, h3, h4⟩ := hT
  exact ⟨h1, h2, fun z => absurd hl (pg_ld.mpr z), fun z => h4 z⟩
/-- dead in the same way -/
theorem rp_Ss {t : Nat → Nat} {M n : Nat} {σ : pm_S} {a b : pg_C} {h : rp_H} {s s' : Nat} (e : rp_S t M n σ a h s) (q : pg_sf (pt_T t M n) a b) (hs : s ≤ s') : rp_S t M n σ b h s' := by
  obtain ⟨⟨h1, h2, h3, h4⟩, hK, hn⟩ := e
  obtain ⟨q1, q2, q3, q4⟩ := q
  obtain ⟨d1, d2, d3⟩ := h4 q1
  refine ⟨⟨h1, q3 ▸ h2, fun z => absurd q2 (pg_ld.mpr z), fun _ => ⟨?_, d2, ?_⟩⟩, hK, by rw [← q3]; omega⟩
  · rw [d1]
    unfold rf_f
    rw [← q3]
    by_cases w : (pt_T t M n).1 a.1 = 45
    · rw [if_pos w, if_pos w]
    · rw [if_neg w, if_neg w]
      rcases q4 with z | z
      · exact absurd z w
      · rw [z]
  · rw [d3, q3]
theorem rp_St {t : Nat → Nat} {M n : Nat} {σ : pm_S} {c : pg_C} {h : rp_H} {s s' : Nat} (e : rp_S t M n σ c h s) (hb : h.1 ≤ 2 * c.1 + s') : rp_S t M n σ c h s' := ⟨e.1, e.2.1, hb⟩
/-- a loop's head: live, the nodes are few -/
def rp_T2 (t : Nat → Nat) (M n : Nat) (σ : pm_S) (c : pg_C) (h : rp_H) (s D : Nat) : Prop := rp_S t M n σ c h (s + D) ∧ (σ.1 10 6 = 0 → h.1 ≤ 2 * c.1 + s)
theorem rp_t1 {t : Nat → Nat} {M n : Nat} {σ : pm_S} {c : pg_C} {h : rp_H} {s D : Nat} (e : rp_T2 t M n σ c h s D) (z : σ.1 10 6 = 0) : rp_S t M n σ c h s := rp_St e.1 (e.2 z)
theorem rp_t0 {t : Nat → Nat} {M n : Nat} {σ : pm_S} {c : pg_C} {h : rp_H} {s D : Nat} (e : rp_S t M n σ c h s) : rp_T2 t M n σ c h s D := ⟨⟨e.1, e.2.1, Nat.le_trans e.2.2 (by omega)⟩, fun _ => e.2.2⟩
theorem rp_t2 {t : Nat → Nat} {M n : Nat} {σ σ' : pm_S} {c : pg_C} {h h' : rp_H} {s D to : Nat} {A : pg_P} (hL : pg_L (pt_T t M n) 0 A) (e : rp_S t M n σ c h s) (e' : rp_S t M n σ' (A c).1 h' (s + D)) (g : rp_E t M n σ h σ' h' to (A c).2) : rp_T2 t M n σ' (A c).1 h' s D := by
  refine ⟨e', fun z => ?_⟩
  have h1 := (g.2.2.2.2 z).1
  have h2 := hL c (rp_lv e' z)
  have h3 := e.2.2
  omega
theorem rp_t3 {t : Nat → Nat} {M n : Nat} {c : pg_C} {A : pg_P} (hL : pg_L (pt_T t M n) 0 A) (h1 : 1 ≤ (A c).2.length) (z : pg_live (pt_T t M n) (A c).1) : c.1 + 1 ≤ (A c).1.1 := by
  have := hL c z
  omega
theorem rp_dec {t : Nat → Nat} {M n : Nat} {σ : pm_S} {c : pg_C} {h : rp_H} {s : Nat} (hS : rp_S t M n σ c h s) (hc : pg_live (pt_T t M n) c → 1 ≤ c.2.2) : rp_S t M n (pm_pi σ 10 8 (σ.1 10 8 - 1)) (pg_dec c) h s := ⟨rp_dec0 hS.1 hc, hS.2.1, hS.2.2⟩
def xe_B (t : Nat → Nat) (M n : Nat) (σ0 : pm_S) (h0 : rp_H) (σ : pm_S) (h : rp_H) (c : pg_C) (s b : Nat) (P : List xm_I) (O : List (List pg_N)) (E : List (List hp_N)) : Prop :=
  ∃ F G, rp_S t M n σ c h s ∧ rp_W σ0 h0 σ h ∧ σ.1 10 30 = nI b ∧ xe_p σ F G ∧ xe_P P F ∧ xe_O O G ∧ xe_V t M n σ0 h0 σ h F G E
/-- the pile's top -/
theorem xe_Bp {t : Nat → Nat} {M n : Nat} {σ0 : pm_S} {h0 : rp_H} {σ : pm_S} {h : rp_H} {c : pg_C} {s b : Nat} {i : xm_I} {P : List xm_I} {O : List (List pg_N)} {E : List (List hp_N)} (B : xe_B t M n σ0 h0 σ h c s b (i :: P) O E) : i.1 ≤ 99 ∧ (i.1 = 35 → ∃ g, g ≤ 13 ∧ i.2.2.1 = nI g) ∧ ((i.1 = 99 ∧ σ.2.2 59 P.length = -1) ∨ (i.1 ≠ 99 ∧ ∃ a, a < h.1 ∧ σ.2.2 59 P.length = nI a ∧ σ.2.2 49 a = nI i.1 ∧ (σ.1 10 6 = 0 → rp_V t M n i.1 (σ.2.2 51 a) i.2.2.1))) := by
  obtain ⟨F, G, hS, w, h30, p, hP, hO, v⟩ := B
  cases F with
  | nil => exact hP.elim
  | cons A F =>
    obtain ⟨⟨p1, p2, p3, p4⟩, p5⟩ := hP
    refine ⟨p1, p3, ?_⟩
    have e := p.2.2.1.1
    rw [← xe_pl p5] at e
    by_cases q : i.1 = 99
    · rw [if_pos q] at p2
      rw [p2] at e
      exact Or.inl ⟨q, e⟩
    · rw [if_neg q] at p2
      cases A with
      | nil => cases p2
      | cons x la =>
        have hd : x.1 = (i.1, i.2.1, i.2.2.1, i.2.2.2.length + 1) := (List.cons.inj p2).1
        obtain ⟨g1, g2, g3, g4⟩ := v.1 _ (Or.inl (List.mem_cons_self ..))
        have hx := g2.1.2.1
        rw [hd] at hx
        exact Or.inr ⟨q, x.2, g2.1.1, e, hx.1, fun z => (hx.2 z).2.2⟩
theorem xe_Bl {t : Nat → Nat} {M n : Nat} {σ0 : pm_S} {h0 : rp_H} {σ : pm_S} {h : rp_H} {c : pg_C} {s b : Nat} {P : List xm_I} {O : List (List pg_N)} {E : List (List hp_N)} (B : xe_B t M n σ0 h0 σ h c s b P O E) : σ.1 10 27 = nI P.length ∧ σ.1 10 29 = nI O.length ∧ σ.1 10 30 = nI b ∧ rp_S t M n σ c h s ∧ rp_W σ0 h0 σ h := by
  obtain ⟨F, G, hS, w, h30, p, hP, hO, v⟩ := B
  exact ⟨by rw [xe_pl hP]; exact p.1, by rw [xe_ol hO]; exact p.2.1, h30, hS, w⟩
theorem xe_Bk {t : Nat → Nat} {M n : Nat} {σ0 : pm_S} {h0 : rp_H} {σ σ' : pm_S} {h : rp_H} {c c' : pg_C} {s s' b : Nat} {P : List xm_I} {O : List (List pg_N)} {E : List (List hp_N)} (B : xe_B t M n σ0 h0 σ h c s b P O E) (k : rp_K σ σ') (hS' : rp_S t M n σ' c' h s') : xe_B t M n σ0 h0 σ' h c' s' b P O E := by
  obtain ⟨F, G, hS, w, h30, p, hP, hO, v⟩ := B
  exact ⟨F, G, hS', rp_Wk w k, (xe_fk k).1.2.2.trans h30, xe_pf (xe_fk k) p, hP, hO, xe_VK k v⟩
theorem xe_Bo {t : Nat → Nat} {M n : Nat} {σ0 : pm_S} {h0 : rp_H} {σ σ' : pm_S} {h h' : rp_H} {c c' : pg_C} {s s' b e : Nat} {l : List pg_N} {P : List xm_I} {O : List (List pg_N)} {E : List (List hp_N)} (B : xe_B t M n σ0 h0 σ h c s b P O E) (o : rp_Oq t M n σ h σ' h' e l) (f : xe_f σ σ') (hS' : rp_S t M n σ' c' h' s') : ∃ x la, x.2 = e ∧ (x :: la).map (·.1) = l ∧ xe_B t M n σ0 h0 σ' h' c' s' b P O ((x :: la) :: E) := by
  obtain ⟨F, G, hS, w, h30, p, hP, hO, v⟩ := B
  obtain ⟨x, la, e1, e2, v'⟩ := xe_Vo o v
  exact ⟨x, la, e1, e2, F, G, hS', rp_Wt w o.1, f.1.2.2.trans h30, xe_pf f p, hP, hO, v'⟩
theorem xe_Bn {t : Nat → Nat} {M n : Nat} {σ0 : pm_S} {h0 : rp_H} {σ : pm_S} {h : rp_H} {c : pg_C} {s b : Nat} {P : List xm_I} {O : List (List pg_N)} {E : List (List hp_N)} (B : xe_B t M n σ0 h0 σ h c s b P O E) : xe_B t M n σ0 h0 σ h c s b P O ([] :: E) := by
  obtain ⟨F, G, hS, w, h30, p, hP, hO, v1, v2, v3, v4⟩ := B
  refine ⟨F, G, hS, w, h30, p, hP, hO, fun T hT => ?_, fun x => ?_, v3, ?_⟩
  · rcases hT with q | q | q
    · exact v1 T (Or.inl q)
    · exact v1 T (Or.inr (Or.inl q))
    · rcases List.mem_cons.mp q with q | q
      · rw [q]; exact ⟨fun j x h => by simp at h, trivial, fun y hy => absurd hy List.not_mem_nil, fun x l e => by cases e⟩
      · exact v1 T (Or.inr (Or.inr q))
  · have := v2 x
    show xe_s x F + xe_s x G + (0 + xe_s x E) ≤ 1
    omega
  · show h.1 = h0.1 + (xe_l F + xe_l G + (0 + xe_l E))
    omega
theorem xe_Bq {t : Nat → Nat} {M n : Nat} {σ0 : pm_S} {h0 : rp_H} {σ : pm_S} {h : rp_H} {c : pg_C} {s b : Nat} {P : List xm_I} {O : List (List pg_N)} {E : List (List hp_N)} (B : xe_B t M n σ0 h0 σ h c s b P O E) : xe_B t M n σ0 h0 (pm_pi σ 10 30 (nI (b + 1))) h c s (b + 1) P O E := by
  obtain ⟨F, G, hS, w, h30, p, hP, hO, v⟩ := B
  have q : xe_q σ (pm_pi σ 10 30 (nI (b + 1))) := xe_qi xe_qr (by decide)
  exact ⟨F, G, xe_Sq q hS, xe_Wq q w, rfl, p, hP, hO, xe_Vq q v⟩
/-- pushed -/
theorem xe_Bu {t : Nat → Nat} {M n : Nat} {σ0 : pm_S} {h0 : rp_H} {σ : pm_S} {h : rp_H} {c : pg_C} {s b : Nat} {i : xm_I} {P : List xm_I} {O : List (List pg_N)} {T : List hp_N} {E : List (List hp_N)} (B : xe_B t M n σ0 h0 σ h c s b P O (T :: E)) (hi : i.1 ≤ 99 ∧ (if i.1 = 99 then T = [] else T.map (·.1) = xm_nd i i.2.2.2) ∧ (i.1 = 35 → ∃ g, g ≤ 13 ∧ i.2.2.1 = nI g) ∧ (i.1 = 35 ∨ i.1 = 36 → i.2.2.2 = [])) : xe_B t M n σ0 h0 (pm_pi (pm_pr σ 59 (upd (σ.2.2 59) P.length (xe_c T))) 10 27 (nI (P.length + 1))) h c s b (i :: P) O E := by
  obtain ⟨F, G, hS, w, h30, p, hP, hO, v⟩ := B
  have q : xe_q σ (pm_pi (pm_pr σ 59 (upd (σ.2.2 59) P.length (xe_c T))) 10 27 (nI (P.length + 1))) := xe_qi (xe_qa xe_qr (by decide)) (by decide)
  refine ⟨T :: F, G, xe_Sq q hS, xe_Wq q w, h30, ⟨?_, p.2.1, ⟨?_, ?_⟩, p.2.2.2⟩, ⟨hi, hP⟩, hO, xe_pp.mpr (xe_Vq q v)⟩
  · rw [List.length_cons, ← xe_pl hP]; rfl
  · rw [← xe_pl hP]; exact pk_us
  · exact xe_au (by rw [← xe_pl hP]; exact Nat.le_refl _) p.2.2.1
/-- given -/
theorem xe_Bg {t : Nat → Nat} {M n : Nat} {σ0 : pm_S} {h0 : rp_H} {σ : pm_S} {h : rp_H} {c : pg_C} {s b : Nat} {P : List xm_I} {O : List (List pg_N)} {x : hp_N} {la : List hp_N} {l : List pg_N} {E : List (List hp_N)} (B : xe_B t M n σ0 h0 σ h c s b P O ((x :: la) :: E)) (hl : (x :: la).map (·.1) = l) : xe_B t M n σ0 h0 (pm_pi (pm_pr σ 60 (upd (σ.2.2 60) O.length (nI x.2))) 10 29 (nI (O.length + 1))) h c s b P (l :: O) E := by
  obtain ⟨F, G, hS, w, h30, p, hP, hO, v⟩ := B
  have q : xe_q σ (pm_pi (pm_pr σ 60 (upd (σ.2.2 60) O.length (nI x.2))) 10 29 (nI (O.length + 1))) := xe_qi (xe_qa xe_qr (by decide)) (by decide)
  refine ⟨F, (x :: la) :: G, xe_Sq q hS, xe_Wq q w, h30, ⟨p.1, ?_, p.2.2.1, ?_, ?_⟩, hP, ⟨⟨by simp, hl⟩, hO⟩, xe_po.mpr (xe_Vq q v)⟩
  · rw [List.length_cons, ← xe_ol hO]; rfl
  · rw [← xe_ol hO]; exact pk_us
  · exact xe_au (by rw [← xe_ol hO]; exact Nat.le_refl _) p.2.2.2
theorem xe_nn {l : List hp_N} (h : l ≠ []) : ∃ x la, l = x :: la := by
  cases l with
  | nil => exact absurd rfl h
  | cons x la => exact ⟨x, la, rfl⟩
theorem xe_mp {T : List hp_N} {i : xm_I} {ch : List pg_N} (h : T.map (·.1) = xm_nd i ch) : ∃ x la, T = x :: la ∧ x.1 = (i.1, i.2.1, i.2.2.1, ch.length + 1) ∧ la.map (·.1) = ch := by
  cases T with
  | nil => cases h
  | cons x la => exact ⟨x, la, rfl, (List.cons.inj h).1, (List.cons.inj h).2⟩
theorem xe_jd {i : xm_I} {x : hp_N} {la B : List hp_N} {ch l : List pg_N} (hx : x.1 = (i.1, i.2.1, i.2.2.1, ch.length + 1)) (ha : la.map (·.1) = ch) (hb : B.map (·.1) = l) : (xe_j (x :: la) B).map (·.1) = xm_nd i (ch ++ l) := by
  rw [xe_jl, ha, hb, hx]
  rfl
/-- a sign takes its operand -/
theorem xe_B36 {t : Nat → Nat} {M n : Nat} {σ0 : pm_S} {h0 : rp_H} {σ : pm_S} {h : rp_H} {c : pg_C} {s b : Nat} {i : xm_I} {P : List xm_I} {l : List pg_N} {O : List (List pg_N)} (B : xe_B t M n σ0 h0 σ h c s b (i :: P) (l :: O) []) (hi : i.1 = 36) (hc : pg_live (pt_T t M n) c → 1 ≤ c.2.2) :
    ∃ a e, a < h.1 ∧ e < h.1 ∧ rp_f h e ∧ σ.2.2 59 P.length = nI a ∧ σ.2.2 60 O.length = nI e ∧ rp_S t M n (pm_pi (pm_pi σ 10 27 (nI P.length)) 10 8 (σ.1 10 8 - 1)) (pg_dec c) h s ∧
    ∀ σ2, rp_S t M n σ2 (pg_dec c) (rp_ad h a e) s → rh_F (pm_pi (pm_pi σ 10 27 (nI P.length)) 10 8 (σ.1 10 8 - 1)) σ2 → xe_B t M n σ0 h0 (pm_pr σ2 60 (upd (σ2.2.2 60) O.length (nI a))) (rp_ad h a e) (pg_dec c) s b P (xm_nd i l :: O) [] := by
  obtain ⟨F, G, hS, w, h30, p, hP, hO, v⟩ := B
  cases F with
  | nil => exact hP.elim
  | cons A F =>
  cases G with
  | nil => exact hO.elim
  | cons U G =>
    obtain ⟨⟨p1, p2, p3, p4⟩, p5⟩ := hP
    obtain ⟨⟨o1, o2⟩, o5⟩ := hO
    rw [if_neg (by omega), p4 (Or.inr hi)] at p2
    obtain ⟨x, la, rfl, hx, ha⟩ := xe_mp p2
    obtain ⟨y, lb, rfl⟩ := xe_nn o1
    obtain ⟨q1, q2, q3, q4⟩ := p
    have e1 := q3.1
    have e2 := q4.1
    rw [← xe_pl p5] at e1
    rw [← xe_ol o5] at e2
    have ga := v.1 _ (Or.inl (List.mem_cons_self ..))
    have gb := v.1 _ (Or.inr (Or.inl (List.mem_cons_self ..)))
    have qq : xe_q σ (pm_pi σ 10 27 (nI P.length)) := xe_qi xe_qr (by decide)
    refine ⟨x.2, y.2, ga.2.1.1.1, gb.2.1.1.1, (gb.2.2.2 y lb rfl).2, e1, e2, rp_dec (xe_Sq qq hS) hc, fun σ2 hS2 hF => ?_⟩
    have v1 : xe_V t M n σ0 h0 (pm_pi (pm_pi σ 10 27 (nI P.length)) 10 8 (σ.1 10 8 - 1)) h ((x :: la) :: F) ((y :: lb) :: G) [] := xe_Vk (fun _ => ⟨rfl, rfl, rfl⟩) (fun z => z) v
    have w1 : rp_W σ0 h0 (pm_pi (pm_pi σ 10 27 (nI P.length)) 10 8 (σ.1 10 8 - 1)) h := rp_Wk (xe_Wq qq w) ⟨⟨fun a c => by
      by_cases h1 : a = 10
      · by_cases h2 : c = 8
        · left; omega
        · right
          show (if a = 10 then (if c = 8 then _ else (pm_pi σ 10 27 (nI P.length)).1 a c) else (pm_pi σ 10 27 (nI P.length)).1 a c) = _
          rw [if_pos h1, if_neg h2]
      · right
        show (if a = 10 then (if c = 8 then _ else (pm_pi σ 10 27 (nI P.length)).1 a c) else (pm_pi σ 10 27 (nI P.length)).1 a c) = _
        rw [if_neg h1], fun _ => Or.inr rfl, fun _ => Or.inr rfl⟩, fun z => z⟩
    have v2 := xe_jn hF (xe_pp.mp (xe_po.mp v1))
    have w2 := rp_Wa w1 hF ga.2.1.1.1 (gb.2.2.1 y (List.mem_cons_self ..))
    have f2 := xe_fa hF
    have qr : xe_q σ2 (pm_pr σ2 60 (upd (σ2.2.2 60) O.length (nI x.2))) := xe_qa xe_qr (by decide)
    refine ⟨F, xe_j (x :: la) (y :: lb) :: G, xe_Sq qr hS2, xe_Wq qr w2, f2.1.2.2.trans h30, ⟨?_, ?_, ?_, ?_, ?_⟩, p5, ⟨⟨by simp [xe_j], xe_jd hx ha o2⟩, o5⟩, xe_po.mpr (xe_Vq qr v2)⟩
    · show σ2.1 10 27 = _
      rw [f2.1.1, ← xe_pl p5]; rfl
    · show σ2.1 10 29 = _
      rw [f2.1.2.1]; exact q2
    · rw [pm_rne (by decide), f2.2.1]; exact q3.2
    · rw [pm_r22, xe_ol o5]; exact pk_us
    · rw [pm_r22, f2.2.2]; exact xe_au (by rw [xe_ol o5]; exact Nat.le_refl _) q4.2
/-- a sign between takes both -/
theorem xe_B35 {t : Nat → Nat} {M n : Nat} {σ0 : pm_S} {h0 : rp_H} {σ : pm_S} {h : rp_H} {c : pg_C} {s b : Nat} {i : xm_I} {P : List xm_I} {l1 l2 : List pg_N} {O : List (List pg_N)} (B : xe_B t M n σ0 h0 σ h c s b (i :: P) (l2 :: l1 :: O) []) (hi : i.1 = 35) :
    ∃ a e1 e2, a < h.1 ∧ e1 < h.1 ∧ e2 < h.1 ∧ rp_f h e1 ∧ rp_f (rp_ad h a e1) e2 ∧ σ.2.2 59 P.length = nI a ∧ σ.2.2 60 O.length = nI e1 ∧ σ.2.2 60 (O.length + 1) = nI e2 ∧ rp_S t M n (pm_pi (pm_pi σ 10 27 (nI P.length)) 10 29 (nI O.length)) c h s ∧
    ∀ σ2 σ3, rh_F (pm_pi (pm_pi σ 10 27 (nI P.length)) 10 29 (nI O.length)) σ2 → rh_F σ2 σ3 → rp_S t M n σ3 c (rp_ad (rp_ad h a e1) a e2) s → xe_B t M n σ0 h0 (pm_pi (pm_pr σ3 60 (upd (σ3.2.2 60) O.length (nI a))) 10 29 (nI (O.length + 1))) (rp_ad (rp_ad h a e1) a e2) c s b P (xm_nd i (l1 ++ l2) :: O) [] := by
  obtain ⟨F, G, hS, w, h30, p, hP, hO, v⟩ := B
  cases F with
  | nil => exact hP.elim
  | cons A F =>
  cases G with
  | nil => exact hO.elim
  | cons U G =>
  cases G with
  | nil => exact hO.2.elim
  | cons U1 G =>
    obtain ⟨⟨p1, p2, p3, p4⟩, p5⟩ := hP
    obtain ⟨⟨o1, o2⟩, ⟨o3, o4⟩, o5⟩ := hO
    rw [if_neg (by omega), p4 (Or.inl hi)] at p2
    obtain ⟨x, la, rfl, hx, ha⟩ := xe_mp p2
    obtain ⟨z, lc, rfl⟩ := xe_nn o1
    obtain ⟨y, lb, rfl⟩ := xe_nn o3
    obtain ⟨q1, q2, q3, q4⟩ := p
    have e1 := q3.1
    have e2 := q4.1
    have e3 := q4.2.1
    rw [← xe_pl p5] at e1
    rw [List.length_cons, ← xe_ol o5] at e2
    rw [← xe_ol o5] at e3
    have ga := v.1 _ (Or.inl (List.mem_cons_self ..))
    have gc := v.1 _ (Or.inr (Or.inl (List.mem_cons_self ..)))
    have gb := v.1 _ (Or.inr (Or.inl (List.mem_cons_of_mem _ (List.mem_cons_self ..))))
    have qq : xe_q σ (pm_pi (pm_pi σ 10 27 (nI P.length)) 10 29 (nI O.length)) := xe_qi (xe_qi xe_qr (by decide)) (by decide)
    have v1 := xe_po.mp (xe_po.mp (xe_Vq qq v))
    have v2 := xe_pp.mp v1
    have zy : z.2 ≠ y.2 := fun q => by
      have h1 := v.2.1 z.2
      have h2 := xe_n1 (x := z) (l := lc)
      have h3 := xe_n1 (x := y) (l := lb)
      rw [← q] at h3
      have e : xe_s z.2 ((z :: lc) :: (y :: lb) :: G) = xe_n z.2 (z :: lc) + (xe_n z.2 (y :: lb) + xe_s z.2 G) := rfl
      omega
    refine ⟨x.2, y.2, z.2, ga.2.1.1.1, gb.2.1.1.1, gc.2.1.1.1, (gb.2.2.2 y lb rfl).2, rp_fa ga.2.1.1.1 zy (gc.2.2.2 z lc rfl).2, e1, e3, e2, xe_Sq qq hS, fun σ2 σ3 hF hF2 hS2 => ?_⟩
    have v3 := xe_jn hF v2
    have v4 := xe_jn (x := (((x.1.1, x.1.2.1, x.1.2.2.1, (la ++ y :: lb).length + 1), x.2) : hp_N)) (la := la ++ y :: lb) hF2 v3
    have w1 := rp_Wa (xe_Wq qq w) hF ga.2.1.1.1 (gb.2.2.1 y (List.mem_cons_self ..))
    have w2 := rp_Wa (a := x.2) w1 hF2 ga.2.1.1.1 (gc.2.2.1 z (List.mem_cons_self ..))
    have f2 := xe_ft (xe_fa hF) (xe_fa hF2)
    have qr : xe_q σ3 (pm_pi (pm_pr σ3 60 (upd (σ3.2.2 60) O.length (nI x.2))) 10 29 (nI (O.length + 1))) := xe_qi (xe_qa xe_qr (by decide)) (by decide)
    refine ⟨F, xe_j (xe_j (x :: la) (y :: lb)) (z :: lc) :: G, xe_Sq qr hS2, xe_Wq qr w2, f2.1.2.2.trans h30, ⟨?_, ?_, ?_, ?_, ?_⟩, p5, ⟨⟨by simp [xe_j], ?_⟩, o5⟩, xe_po.mpr (xe_Vq qr v4)⟩
    · show σ3.1 10 27 = _
      rw [f2.1.1, ← xe_pl p5]; rfl
    · rw [List.length_cons, ← xe_ol o5]; rfl
    · show xe_a ((pm_pr σ3 60 (upd (σ3.2.2 60) O.length (nI x.2))).2.2 59) F
      rw [pm_rne (by decide), f2.2.1]; exact q3.2
    · show (pm_pr σ3 60 (upd (σ3.2.2 60) O.length (nI x.2))).2.2 60 _ = _
      rw [pm_r22, xe_ol o5]; exact pk_us
    · show xe_a ((pm_pr σ3 60 (upd (σ3.2.2 60) O.length (nI x.2))).2.2 60) G
      rw [pm_r22, f2.2.2]; exact xe_au (by rw [xe_ol o5]; exact Nat.le_refl _) q4.2.2
    · exact xe_jd (i := i) (ch := l1) (by show (x.1.1, x.1.2.1, x.1.2.2.1, _) = _; rw [hx, ← o4, List.length_append, ← List.length_map (as := la) (f := (·.1)), ha, List.length_map]; simp) (by rw [List.map_append, ha, o4]; rfl) o2
theorem rp_pi8 {σ : pm_S} {x : Int32} : rp_K σ (pm_pi σ 10 8 x) := ⟨⟨fun a c => by
      by_cases h1 : a = 10
      · by_cases h2 : c = 8
        · left; omega
        · right
          show (if a = 10 then (if c = 8 then x else σ.1 a c) else σ.1 a c) = _
          rw [if_pos h1, if_neg h2]
      · right
        show (if a = 10 then (if c = 8 then x else σ.1 a c) else σ.1 a c) = _
        rw [if_neg h1], fun _ => Or.inr rfl, fun _ => Or.inr rfl⟩, fun z => z⟩
/-- a bracket closes: what it held comes to the hand -/
theorem xe_Bc9 {t : Nat → Nat} {M n : Nat} {σ0 : pm_S} {h0 : rp_H} {σ : pm_S} {h : rp_H} {c : pg_C} {s b : Nat} {i : xm_I} {P : List xm_I} {l : List pg_N} {O : List (List pg_N)} (B : xe_B t M n σ0 h0 σ h c s b (i :: P) (l :: O) []) (hi : i.1 = 99) (hc : pg_live (pt_T t M n) c → 1 ≤ c.2.2) :
    ∃ x la, (x :: la).map (·.1) = l ∧ σ.2.2 60 O.length = nI x.2 ∧ xe_B t M n σ0 h0 (pm_pi (pm_pi (pm_pi σ 10 27 (nI P.length)) 10 8 (σ.1 10 8 - 1)) 10 29 (nI O.length)) h (pg_dec c) s b P O [x :: la] := by
  obtain ⟨F, G, hS, w, h30, p, hP, hO, v⟩ := B
  cases F with
  | nil => exact hP.elim
  | cons A F =>
  cases G with
  | nil => exact hO.elim
  | cons U G =>
    obtain ⟨⟨p1, p2, p3, p4⟩, p5⟩ := hP
    obtain ⟨⟨o1, o2⟩, o5⟩ := hO
    rw [if_pos hi] at p2
    subst p2
    obtain ⟨y, lb, rfl⟩ := xe_nn o1
    obtain ⟨q1, q2, q3, q4⟩ := p
    have e2 := q4.1
    rw [← xe_ol o5] at e2
    have qq : xe_q σ (pm_pi σ 10 27 (nI P.length)) := xe_qi xe_qr (by decide)
    have qr : xe_q (pm_pi (pm_pi σ 10 27 (nI P.length)) 10 8 (σ.1 10 8 - 1)) (pm_pi (pm_pi (pm_pi σ 10 27 (nI P.length)) 10 8 (σ.1 10 8 - 1)) 10 29 (nI O.length)) := xe_qi xe_qr (by decide)
    have v1 : xe_V t M n σ0 h0 (pm_pi (pm_pi (pm_pi σ 10 27 (nI P.length)) 10 8 (σ.1 10 8 - 1)) 10 29 (nI O.length)) h F G [[], y :: lb] := xe_pp.mp (xe_po.mp (xe_Vq qr (xe_VK rp_pi8 (xe_Vq qq v))))
    refine ⟨y, lb, o2, e2, F, G, xe_Sq qr (rp_dec (xe_Sq qq hS) hc), xe_Wq qr (rp_Wk (xe_Wq qq w) rp_pi8), h30, ⟨?_, ?_, q3.2, q4.2⟩, p5, o5, ?_⟩
    · rw [← xe_pl p5]; rfl
    · rw [← xe_ol o5]; rfl
    · obtain ⟨v1, v2, v3, v4⟩ := v1
      refine ⟨fun T hT => v1 T ?_, fun x => ?_, v3, ?_⟩
      · rcases hT with q | q | q
        · exact Or.inl q
        · exact Or.inr (Or.inl q)
        · exact Or.inr (Or.inr (List.mem_cons_of_mem _ q))
      · have := v2 x
        have e : xe_s x [[], y :: lb] = 0 + xe_s x [y :: lb] := rfl
        omega
      · rw [v4]
        show h0.1 + (xe_l F + xe_l G + (0 + xe_l [y :: lb])) = _
        omega
theorem xe_Bc3 {t : Nat → Nat} {M n : Nat} {σ0 : pm_S} {h0 : rp_H} {σ : pm_S} {h : rp_H} {c : pg_C} {s b : Nat} {i : xm_I} {P : List xm_I} {l : List pg_N} {O : List (List pg_N)} (B : xe_B t M n σ0 h0 σ h c s b (i :: P) (l :: O) []) (hi : i.1 ≠ 99) (hc : pg_live (pt_T t M n) c → 1 ≤ c.2.2) :
    ∃ a e, a < h.1 ∧ e < h.1 ∧ rp_f h e ∧ σ.2.2 59 P.length = nI a ∧ σ.2.2 60 O.length = nI e ∧ rp_S t M n (pm_pi (pm_pi (pm_pi σ 10 27 (nI P.length)) 10 8 (σ.1 10 8 - 1)) 10 29 (nI O.length)) (pg_dec c) h s ∧
    ∀ σ2, rp_S t M n σ2 (pg_dec c) (rp_ad h a e) s → rh_F (pm_pi (pm_pi (pm_pi σ 10 27 (nI P.length)) 10 8 (σ.1 10 8 - 1)) 10 29 (nI O.length)) σ2 → ∃ x la, (x :: la).map (·.1) = xm_nd i (i.2.2.2 ++ l) ∧ x.2 = a ∧ xe_B t M n σ0 h0 σ2 (rp_ad h a e) (pg_dec c) s b P O [x :: la] := by
  obtain ⟨F, G, hS, w, h30, p, hP, hO, v⟩ := B
  cases F with
  | nil => exact hP.elim
  | cons A F =>
  cases G with
  | nil => exact hO.elim
  | cons U G =>
    obtain ⟨⟨p1, p2, p3, p4⟩, p5⟩ := hP
    obtain ⟨⟨o1, o2⟩, o5⟩ := hO
    rw [if_neg hi] at p2
    obtain ⟨x, la, rfl, hx, ha⟩ := xe_mp p2
    obtain ⟨y, lb, rfl⟩ := xe_nn o1
    obtain ⟨q1, q2, q3, q4⟩ := p
    have e1 := q3.1
    have e2 := q4.1
    rw [← xe_pl p5] at e1
    rw [← xe_ol o5] at e2
    have ga := v.1 _ (Or.inl (List.mem_cons_self ..))
    have gb := v.1 _ (Or.inr (Or.inl (List.mem_cons_self ..)))
    have qq : xe_q σ (pm_pi σ 10 27 (nI P.length)) := xe_qi xe_qr (by decide)
    have qr : xe_q (pm_pi (pm_pi σ 10 27 (nI P.length)) 10 8 (σ.1 10 8 - 1)) (pm_pi (pm_pi (pm_pi σ 10 27 (nI P.length)) 10 8 (σ.1 10 8 - 1)) 10 29 (nI O.length)) := xe_qi xe_qr (by decide)
    have v1 : xe_V t M n σ0 h0 (pm_pi (pm_pi (pm_pi σ 10 27 (nI P.length)) 10 8 (σ.1 10 8 - 1)) 10 29 (nI O.length)) h F G [x :: la, y :: lb] := xe_pp.mp (xe_po.mp (xe_Vq qr (xe_VK rp_pi8 (xe_Vq qq v))))
    refine ⟨x.2, y.2, ga.2.1.1.1, gb.2.1.1.1, (gb.2.2.2 y lb rfl).2, e1, e2, xe_Sq qr (rp_dec (xe_Sq qq hS) hc), fun σ2 hS2 hF => ⟨_, _, xe_jd hx ha o2, rfl, F, G, hS2, rp_Wa (xe_Wq qr (rp_Wk (xe_Wq qq w) rp_pi8)) hF ga.2.1.1.1 (gb.2.2.1 y (List.mem_cons_self ..)), (xe_fa hF).1.2.2.trans h30, xe_pf (xe_fa hF) ⟨?_, ?_, q3.2, q4.2⟩, p5, o5, xe_jn hF v1⟩⟩
    · rw [← xe_pl p5]; rfl
    · rw [← xe_ol o5]; rfl
/-- an argument -/
theorem xe_Bm {t : Nat → Nat} {M n : Nat} {σ0 : pm_S} {h0 : rp_H} {σ : pm_S} {h : rp_H} {c : pg_C} {s b : Nat} {i : xm_I} {P : List xm_I} {l : List pg_N} {O : List (List pg_N)} (B : xe_B t M n σ0 h0 σ h c s b (i :: P) (l :: O) []) (hi : i.1 = 34) :
    ∃ a e, a < h.1 ∧ e < h.1 ∧ rp_f h e ∧ σ.2.2 59 P.length = nI a ∧ σ.2.2 60 O.length = nI e ∧ rp_S t M n (pm_pi σ 10 29 (nI O.length)) c h s ∧
    ∀ σ2, rp_S t M n σ2 c (rp_ad h a e) s → rh_F (pm_pi σ 10 29 (nI O.length)) σ2 → xe_B t M n σ0 h0 σ2 (rp_ad h a e) c s b ((i.1, i.2.1, i.2.2.1, i.2.2.2 ++ l) :: P) O [] := by
  obtain ⟨F, G, hS, w, h30, p, hP, hO, v⟩ := B
  cases F with
  | nil => exact hP.elim
  | cons A F =>
  cases G with
  | nil => exact hO.elim
  | cons U G =>
    obtain ⟨⟨p1, p2, p3, p4⟩, p5⟩ := hP
    obtain ⟨⟨o1, o2⟩, o5⟩ := hO
    rw [if_neg (by omega)] at p2
    obtain ⟨x, la, rfl, hx, ha⟩ := xe_mp p2
    obtain ⟨y, lb, rfl⟩ := xe_nn o1
    obtain ⟨q1, q2, q3, q4⟩ := p
    have e1 := q3.1
    have e2 := q4.1
    rw [← xe_pl p5] at e1
    rw [← xe_ol o5] at e2
    have ga := v.1 _ (Or.inl (List.mem_cons_self ..))
    have gb := v.1 _ (Or.inr (Or.inl (List.mem_cons_self ..)))
    have qq : xe_q σ (pm_pi σ 10 29 (nI O.length)) := xe_qi xe_qr (by decide)
    refine ⟨x.2, y.2, ga.2.1.1.1, gb.2.1.1.1, (gb.2.2.2 y lb rfl).2, e1, e2, xe_Sq qq hS, fun σ2 hS2 hF => ⟨xe_j (x :: la) (y :: lb) :: F, G, hS2, rp_Wa (xe_Wq qq w) hF ga.2.1.1.1 (gb.2.2.1 y (List.mem_cons_self ..)), (xe_fa hF).1.2.2.trans h30, xe_pf (xe_fa hF) ⟨q1, ?_, ⟨q3.1, q3.2⟩, q4.2⟩, ⟨⟨p1, ?_, fun z => ?_, fun z => ?_⟩, p5⟩, o5, xe_jp hF (xe_po.mp (xe_Vq qq v))⟩⟩
    · rw [← xe_ol o5]; rfl
    · rw [if_neg (by show ¬ i.1 = 99; omega)]
      exact xe_jd (i := (i.1, i.2.1, i.2.2.1, i.2.2.2 ++ l)) hx ha o2
    · exact absurd (show i.1 = 35 from z) (by omega)
    · have z : i.1 = 35 ∨ i.1 = 36 := z
      omega
/-- counts -/
def xe_k (P : List xm_I) : Nat := (P.filter (fun i => i.1 = 35)).length
def xe_m (P : List xm_I) : Nat := (P.filter (fun i => ¬ i.1 = 35)).length
theorem xe_k0 {i : xm_I} {P : List xm_I} (h : i.1 ≠ 35) : xe_k (i :: P) = xe_k P ∧ xe_m (i :: P) = xe_m P + 1 := by
  unfold xe_k xe_m
  rw [List.filter_cons_of_neg (by simpa using h), List.filter_cons_of_pos (by simpa using h)]
  exact ⟨rfl, rfl⟩
theorem xe_k1 {i : xm_I} {P : List xm_I} (h : i.1 = 35) : xe_k (i :: P) = xe_k P + 1 ∧ xe_m (i :: P) = xe_m P := by
  unfold xe_k xe_m
  rw [List.filter_cons_of_pos (by simpa using h), List.filter_cons_of_neg (by simpa using h)]
  exact ⟨rfl, rfl⟩
theorem xe_km : ∀ (P : List xm_I), P.length = xe_k P + xe_m P
  | [] => rfl
  | i :: P => by
    have ih := xe_km P
    rw [List.length_cons]
    by_cases h : i.1 = 35
    · have := xe_k1 (P := P) h; omega
    · have := xe_k0 (P := P) h; omega
theorem xe_gvn : ∀ (P : List xm_I) (c : pg_C) (l : List pg_N), xe_m P ≤ c.2.2 → (xm_gv c P l).1.2.2 + xe_m P = c.2.2 + xe_m (xm_gv c P l).2.1 ∧ xe_k (xm_gv c P l).2.1 = xe_k P
  | [], c, l, _ => ⟨rfl, rfl⟩
  | i :: P, c, l, h => by
    unfold xm_gv
    by_cases q : i.1 = 36
    · rw [if_pos q]
      have e := xe_k0 (i := i) (P := P) (by omega)
      have ih := xe_gvn P (pg_dec c) (xm_nd i l) (by show _ ≤ c.2.2 - 1; omega)
      have e2 : (pg_dec c).2.2 = c.2.2 - 1 := rfl
      refine ⟨?_, ?_⟩
      · omega
      · omega
    · rw [if_neg q]; exact ⟨rfl, rfl⟩
theorem xe_gvs : ∀ (P : List xm_I) (c : pg_C) (l : List pg_N), (xm_gv (pg_stp c) P l) = (pg_stp (xm_gv c P l).1, (xm_gv c P l).2)
  | [], c, l => rfl
  | i :: P, c, l => by
    unfold xm_gv
    by_cases q : i.1 = 36
    · rw [if_pos q, if_pos q]
      have e : pg_dec (pg_stp c) = pg_stp (pg_dec c) := by
        unfold pg_stp
        by_cases z : c.2.1 = 0
        · rw [if_pos z, if_pos (by exact z)]; rfl
        · rw [if_neg z, if_neg (by exact z)]
      rw [e]
      exact xe_gvs P (pg_dec c) _
    · rw [if_neg q, if_neg q]
theorem xe_gvc (P : List xm_I) (c : pg_C) (l : List pg_N) : (xm_gv c P l).1.1 = c.1 ∧ (xm_gv c P l).1.2.1 = c.2.1 := xm_gvc P c l
theorem xe_stn : ∀ (P : List xm_I) (O : List (List pg_N)) (k : Nat), O.length = xe_k P + 1 → (xm_set k P O).2.length = xe_k (xm_set k P O).1 + 1 ∧ xe_m (xm_set k P O).1 = xe_m P ∧ xe_k (xm_set k P O).1 ≤ xe_k P
  | [], O, k, h => by
    have e : xm_set k [] O = ([], O) := by unfold xm_set; rfl
    rw [e]
    exact ⟨h, rfl, Nat.le_refl _⟩
  | i :: P, [], k, h => by cases h
  | i :: P, [b], k, h => by
    have e : xm_set k (i :: P) [b] = (i :: P, [b]) := by unfold xm_set; rfl
    rw [e]
    exact ⟨h, rfl, Nat.le_refl _⟩
  | i :: P, b :: a :: O, k, h => by
    unfold xm_set
    by_cases q : i.1 = 35 ∧ k ≤ pg_bind i.2.2.1.toNatClampNeg + 1
    · rw [if_pos q]
      have e := xe_k1 (P := P) q.1
      have h : O.length + 1 + 1 = xe_k (i :: P) + 1 := h
      have ih := xe_stn P (xm_nd i (a ++ b) :: O) k (by rw [List.length_cons]; omega)
      omega
    · rw [if_neg q]
      exact ⟨h, rfl, Nat.le_refl _⟩
