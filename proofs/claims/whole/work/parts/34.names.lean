/-! NAMES: the table as a list of names -/
def nt_st (ns : List (List Nat)) (i : Nat) : Nat := ((ns.take i).map List.length).sum
def nt_lt (ns : List (List Nat)) (j : Nat) : Nat := ns.flatten.getD j 0
/-- a word of a text, in great letters -/
def nt_w (t : Nat → Nat) (a e : Nat) : List Nat := (List.range (e - a)).map (fun k => nm_g (t (a + k)))
theorem nt_w_len {t : Nat → Nat} {a e : Nat} : (nt_w t a e).length = e - a := by simp [nt_w]
theorem nt_st_s (ns : List (List Nat)) (i : Nat) : nt_st ns (i + 1) = nt_st ns i + (ns.getD i []).length := by
  unfold nt_st
  rw [List.take_add_one]
  cases h : ns[i]? with
  | none => simp [List.getD_eq_getElem?_getD, h]
  | some x => simp [List.getD_eq_getElem?_getD, h]
theorem nt_all (ns : List (List Nat)) : nt_st ns ns.length = ns.flatten.length := by
  unfold nt_st
  rw [List.take_length, List.length_flatten]
theorem nt_lt_at : ∀ (ns : List (List Nat)) (i k : Nat), i < ns.length → k < (ns.getD i []).length → nt_lt ns (nt_st ns i + k) = (ns.getD i []).getD k 0
  | [], i, k, h, _ => by simp at h
  | x :: ns, 0, k, _, hk => by
    have hk : k < x.length := by simpa using hk
    show (x ++ ns.flatten).getD (0 + k) 0 = x.getD k 0
    rw [Nat.zero_add, List.getD_eq_getElem?_getD, List.getD_eq_getElem?_getD, List.getElem?_append_left hk]
  | x :: ns, i + 1, k, h, hk => by
    have ih := nt_lt_at ns i k (by simpa using h) (by simpa using hk)
    have e : nt_st (x :: ns) (i + 1) = x.length + nt_st ns i := by simp [nt_st]
    rw [e]
    show (x ++ ns.flatten).getD (x.length + nt_st ns i + k) 0 = (ns.getD i []).getD k 0
    rw [List.getD_eq_getElem?_getD, List.getElem?_append_right (by omega), show x.length + nt_st ns i + k - x.length = nt_st ns i + k by omega]
    rw [nt_lt, List.getD_eq_getElem?_getD] at ih
    exact ih
theorem nt_eq {ns : List (List Nat)} {t : Nat → Nat} {i a e : Nat} (hi : i < ns.length) : nm_eq (nt_st ns) (nt_lt ns) t i a e ↔ ns[i]? = some (nt_w t a e) := by
  have hg : ns[i]? = some (ns.getD i []) := by rw [List.getD_eq_getElem?_getD, List.getElem?_eq_getElem hi]; rfl
  have hl : nt_st ns (i + 1) - nt_st ns i = (ns.getD i []).length := by rw [nt_st_s]; omega
  rw [hg]
  constructor
  · rintro ⟨h1, h2⟩
    rw [hl] at h1
    congr 1
    apply List.ext_getElem?
    intro k
    by_cases hk : k < e - a
    · have := h2 k hk
      rw [nt_lt_at ns i k hi (by omega)] at this
      rw [List.getElem?_eq_getElem (by omega : k < (ns.getD i []).length)]
      rw [List.getD_eq_getElem?_getD (l := ns.getD i []), List.getElem?_eq_getElem (by omega : k < (ns.getD i []).length)] at this
      simp only [nt_w, List.getElem?_map, List.getElem?_range hk, Option.map_some]
      exact congrArg some this
    · rw [List.getElem?_eq_none (by omega), List.getElem?_eq_none (by rw [nt_w_len]; omega)]
  · intro h
    have h : ns.getD i [] = nt_w t a e := Option.some.inj h
    refine ⟨by rw [hl, h, nt_w_len], fun k hk => ?_⟩
    rw [nt_lt_at ns i k hi (by rw [h, nt_w_len]; exact hk), h, List.getD_eq_getElem?_getD]
    simp [nt_w, hk]
theorem nm_I_congr {σ : pm_S} {kN kl ks kh ko c : Nat} {st lt st' lt' : Nat → Nat} (h1 : ∀ i, i ≤ c → st' i = st i) (h2 : ∀ j, j < st c → lt' j = lt j) (hI : nm_I σ kN kl ks kh ko c st lt) : nm_I σ kN kl ks kh ko c st' lt' := by
  obtain ⟨⟨s1, s2, s3, s4, s5, s6⟩, hC⟩ := hI
  have hb : ∀ x, x < c → nm_b lt' (st' x) (st' (x + 1)) = nm_b lt (st x) (st (x + 1)) := by
    intro x hx
    rw [h1 x (by omega), h1 (x + 1) (by omega)]
    unfold nm_b
    rw [nm_h_eq (t := lt) _ (st x) (st x) 0 (fun k hk => ?_)]
    have := nm_mono s4 (x + 1) c (by omega) (Nat.le_refl _)
    rw [h2 _ (by omega)]
  refine ⟨⟨s1, s2, fun i hi => by rw [h1 i hi]; exact s3 i hi, fun i hi => by rw [h1 i (by omega), h1 (i + 1) (by omega)]; exact s4 i hi, fun i hi => by rw [h1 i hi]; exact s5 i hi, fun i hi => ?_⟩, fun b hb' => ?_⟩
  · rw [h1 c (Nat.le_refl _)] at hi
    rw [h2 i hi]
    exact s6 i hi
  · obtain ⟨l, c1, c2, c3⟩ := hC b hb'
    refine ⟨l, c1, fun x => ?_, c3⟩
    rw [c2 x]
    constructor
    · rintro ⟨a1, a2⟩; exact ⟨a1, by rw [hb x a1]; exact a2⟩
    · rintro ⟨a1, a2⟩; exact ⟨a1, by rw [hb x a1] at a2; exact a2⟩
/-- the table holds the names ns -/
def nt_I (σ : pm_S) (kN kl ks kh ko : Nat) (ns : List (List Nat)) : Prop := nm_I σ kN kl ks kh ko ns.length (nt_st ns) (nt_lt ns)
theorem nt_add {σ : pm_S} {kN kl ks kh ko kt M a e b : Nat} {Y : pm_Y} {t : Nat → Nat} {ns : List (List Nat)} (hN : nm_D kl ks kh ko kt) (hT : nm_T Y σ kt M t) (hI : nt_I σ kN kl ks kh ko ns) (hae : a ≤ e) (heM : e ≤ M) (hc : ns.length < 4171) (hs : ns.flatten.length + (e - a) ≤ 8704) (hb : b < 1024) (eb : nm_b t a e = nI b) : nt_I (nm_A σ kN kl ks kh ko t ns.length (nt_st ns ns.length) a (e - a) b) kN kl ks kh ko (ns ++ [nt_w t a e]) := by
  unfold nt_I
  rw [List.length_append, List.length_singleton]
  refine nm_I_congr (fun i hi => ?_) (fun j hj => ?_) (nm_I_add hN hT hI hae heM hc (by rw [nt_all]; exact hs) hb eb)
  · unfold nm_st
    by_cases h : i = ns.length + 1
    · subst h
      rw [if_pos rfl, nt_st_s]
      have e1 : nt_st (ns ++ [nt_w t a e]) ns.length = nt_st ns ns.length := by simp [nt_st]
      rw [e1, List.getD_eq_getElem?_getD, List.getElem?_append_right (Nat.le_refl _), Nat.sub_self]
      simp [nt_w_len]
    · rw [if_neg h]
      unfold nt_st
      rw [List.take_append_of_le_length (by omega)]
  · unfold nm_st at hj
    rw [if_pos rfl, nt_all] at hj
    unfold nm_lt nt_lt
    rw [nt_all, List.flatten_append, List.getD_eq_getElem?_getD]
    by_cases h : ns.flatten.length ≤ j
    · rw [if_pos h, List.getElem?_append_right h]
      simp only [List.flatten_cons, List.flatten_nil, List.append_nil, nt_w, List.getElem?_map]
      rw [List.getElem?_range (by omega)]
      rfl
    · rw [if_neg h, List.getElem?_append_left (by omega), List.getD_eq_getElem?_getD]
/-- numberOf, over the list -/
theorem nt_numberOf {Y : pm_Y} {d : Nat} {σ : pm_S} {Q : Option Value → pm_S → Prop} {kN kl ks kh ko kt M a e : Nat} {t : Nat → Nat} {ns : List (List Nat)} (hL : nm_L Y kN kl ks kh ko) (hN : nm_D kl ks kh ko kt) (hT : nm_T Y σ kt M t) (hI : nt_I σ kN kl ks kh ko ns) (hae : a ≤ e) (heM : e ≤ M) (h1 : ∀ i : Nat, ns[i]? = some (nt_w t a e) → Q (some (.int (nI i))) σ) (h2 : nt_w t a e ∉ ns → ns.length < 4171 ∧ ns.flatten.length + (e - a) ≤ 8704 ∧ ∀ σ', nt_I σ' kN kl ks kh ko (ns ++ [nt_w t a e]) → (∀ k j, ¬ (k = kN ∧ j = 4) → σ'.1 k j = σ.1 k j) → σ'.2.1 = σ.2.1 → (∀ k, k ≠ kl → k ≠ ks → k ≠ kh → k ≠ ko → σ'.2.2 k = σ.2.2 k) → Q (some (.int (nI ns.length))) σ') : pm_call Y (d + 3) 15 [.ref kN, .ref kt, .int (nI a), .int (nI e)] σ Q := by
  refine sp15 hL hN hT hI hae heM (fun i hi he => h1 i ((nt_eq hi).mp he)) (fun hnone => ?_)
  have hnot : nt_w t a e ∉ ns := fun hm => by
    obtain ⟨i, hi⟩ := List.getElem?_of_mem hm
    exact hnone i (List.getElem?_eq_some_iff.mp hi).1 ((nt_eq (List.getElem?_eq_some_iff.mp hi).1).mpr hi)
  obtain ⟨q1, q2, q3⟩ := h2 hnot
  refine ⟨q1, by rw [nt_all]; exact q2, fun b hb eb => q3 _ (nt_add hN hT hI hae heM q1 q2 hb eb) (fun k j hkj => ?_) rfl (fun k k1 k2 k3 k4 => ?_)⟩
  · show (if k = kN then (if j = 4 then _ else σ.1 k j) else σ.1 k j) = _
    by_cases a1 : k = kN
    · by_cases a2 : j = 4
      · exact absurd ⟨a1, a2⟩ hkj
      · rw [if_pos a1, if_neg a2]
    · rw [if_neg a1]
  · show (pm_pr (pm_pr (pm_pr (pm_pr σ kl _) ks _) ko _) kh _).2.2 k = _
    rw [pm_rne k3, pm_rne k4, pm_rne k2, pm_rne k1]
