/-! POSITIONS: the nodes around a node, the nodes below it -/
theorem rl_xs {l : List pg_N} {i : Nat} {x : pg_N} (h : l[i]? = some x) : rl_x l i = x := by
  unfold rl_x
  rw [List.getD_eq_getElem?_getD, h]
  rfl
theorem rl_xg {l : List pg_N} {i : Nat} (h : i < l.length) : l[i]? = some (rl_x l i) := by
  unfold rl_x
  rw [List.getD_eq_getElem?_getD, List.getElem?_eq_getElem h]
  rfl
theorem rl_zc {l : List pg_N} (hw : tz_w l) {i : Nat} (h : i < l.length) : 1 ≤ rl_z l i ∧ i + rl_z l i ≤ l.length := hw.1 i _ (rl_xg h)
theorem rl_zl {l : List pg_N} (hw : tz_w l) {i j : Nat} (hi : i < l.length) (h1 : i < j) (h2 : j < i + rl_z l i) : j + rl_z l j ≤ i + rl_z l i := by
  have := (rl_zc hw hi).2
  exact hw.2 i _ j _ (rl_xg hi) (rl_xg (by omega)) h1 h2
theorem rl_chm {l : List pg_N} : ∀ (f s e c : Nat), c ∈ rl_ch l f s e → s ≤ c ∧ c < e
  | 0, _, _, _, h => absurd h List.not_mem_nil
  | f + 1, s, e, c, h => by
    unfold rl_ch at h
    by_cases q : s < e
    · rw [if_pos q] at h
      rcases List.mem_cons.mp h with y | y
      · omega
      · have := rl_chm f _ _ c y
        omega
    · rw [if_neg q] at h; exact absurd h List.not_mem_nil
/-- closed: what begins in [s, e) ends in it -/
def rl_cl (l : List pg_N) (s e : Nat) : Prop := ∀ c, s ≤ c → c < e → 1 ≤ rl_z l c ∧ c + rl_z l c ≤ e
theorem rl_cli {l : List pg_N} (hw : tz_w l) {i : Nat} (hi : i < l.length) : rl_cl l (i + 1) (i + rl_z l i) := fun c h1 h2 => ⟨(rl_zc hw (by have := (rl_zc hw hi).2; omega)).1, rl_zl hw hi (by omega) h2⟩
/-- a tree among them: what lies before it doesn't reach it -/
theorem rl_chb {l : List pg_N} (hw : tz_w l) : ∀ (f s e c : Nat), e ≤ l.length → rl_cl l s e → c ∈ rl_ch l f s e → ∀ j, s ≤ j → j < c → j + rl_z l j ≤ c
  | 0, _, _, _, _, _, h => absurd h List.not_mem_nil
  | f + 1, s, e, c, he, hc, h => by
    intro j h1 h2
    unfold rl_ch at h
    by_cases q : s < e
    · rw [if_pos q] at h
      rcases List.mem_cons.mp h with y | y
      · omega
      · obtain ⟨z1, z2⟩ := hc s (Nat.le_refl _) q
        have hm := rl_chm f _ _ c y
        by_cases w : j < s + rl_z l s
        · by_cases u : j = s
          · rw [u]; omega
          · have := rl_zl hw (by omega) (show s < j by omega) w
            omega
        · exact rl_chb hw f (s + rl_z l s) e c he (fun d hd1 hd2 => hc d (by omega) hd2) y j (by omega) h2
    · rw [if_neg q] at h; exact absurd h List.not_mem_nil
theorem rl_chv {l : List pg_N} : ∀ (f s e j : Nat), rl_cl l s e → e - s ≤ f → s ≤ j → j < e → ∃ c, c ∈ rl_ch l f s e ∧ c ≤ j ∧ j < c + rl_z l c
  | 0, s, e, j, _, hf, h1, h2 => by omega
  | f + 1, s, e, j, hc, hf, h1, h2 => by
    unfold rl_ch
    rw [if_pos (by omega)]
    obtain ⟨z1, z2⟩ := hc s (Nat.le_refl _) (by omega)
    by_cases w : j < s + rl_z l s
    · exact ⟨s, List.mem_cons_self .., h1, w⟩
    · obtain ⟨c, m1, m2, m3⟩ := rl_chv f (s + rl_z l s) e j (fun d hd1 hd2 => hc d (by omega) hd2) (by omega) (by omega) h2
      exact ⟨c, List.mem_cons_of_mem _ m1, m2, m3⟩
theorem rl_fd {p : Nat → Bool} {i : Nat} : ∀ c, i < c → p i = true → (∀ j, i < j → j < c → p j = false) → (List.range c).reverse.filter p = i :: (List.range i).reverse.filter p
  | 0, h, _, _ => absurd h (Nat.not_lt_zero _)
  | c + 1, h, hp, hn => by
    rw [List.range_succ, List.reverse_append, List.reverse_singleton, List.singleton_append]
    by_cases q : i = c
    · rw [q] at hp ⊢
      rw [List.filter_cons_of_pos hp]
    · rw [List.filter_cons_of_neg (by rw [hn c (by omega) (by omega)]; decide)]
      exact rl_fd c (by omega) hp (fun j h1 h2 => hn j h1 (by omega))
theorem rl_cm {l : List pg_N} {i c : Nat} (h : c ∈ rl_c l i) : i < c ∧ c < i + rl_z l i := by
  have := rl_chm _ _ _ _ h
  omega
/-- around a child: its parent, and what is around that -/
theorem rl_upc {l : List pg_N} (hw : tz_w l) {i c : Nat} (hi : i < l.length) (h : c ∈ rl_c l i) : rl_up l c = i :: rl_up l i := by
  obtain ⟨h1, h2⟩ := rl_cm h
  have hz := rl_zc hw hi
  have hb := rl_chb hw _ _ _ c hz.2 (rl_cli hw hi) h
  have e := rl_fd (p := fun j => decide (c < j + rl_z l j)) (i := i) c h1 (by simpa using h2) (fun j hj1 hj2 => by
    have := hb j (by omega) hj2
    simp
    omega)
  unfold rl_up
  rw [e]
  congr 1
  apply List.filter_congr
  intro j hj
  have hj : j < i := by simpa using hj
  by_cases q : i < j + rl_z l j
  · have := rl_zl hw (show j < l.length by omega) hj q
    have q2 : c < j + rl_z l j := by omega
    simp [q, q2]
  · have q2 : ¬ c < j + rl_z l j := by omega
    simp [q, q2]
theorem rl_parc {l : List pg_N} (hw : tz_w l) {i c : Nat} (hi : i < l.length) (h : c ∈ rl_c l i) : rl_par l c = i := by
  unfold rl_par
  rw [rl_upc hw hi h]
  rfl
/-- every node but the first of all is a child, where one tree holds all -/
theorem rl_isc {l : List pg_N} (hw : tz_w l) (h0 : rl_z l 0 = l.length) {c : Nat} (hc : c < l.length) (hp : 0 < c) : ∃ i, i < c ∧ c ∈ rl_c l i := by
  have key : ∀ (n i : Nat), i < c → c < i + rl_z l i → c - i ≤ n → ∃ j, j < c ∧ c ∈ rl_c l j := by
    intro n
    induction n with
    | zero => intro i h1 _ h3; omega
    | succ n ih =>
      intro i h1 h2 h3
      have hi : i < l.length := by omega
      have hz := rl_zc hw hi
      obtain ⟨d, m1, m2, m3⟩ := rl_chv l.length (i + 1) (i + rl_z l i) c (rl_cli hw hi) (by omega) (by omega) h2
      by_cases q : d = c
      · exact ⟨i, h1, q ▸ m1⟩
      · have := rl_chm _ _ _ _ m1
        exact ih d (by omega) m3 (by omega)
  exact key c 0 hp (by omega) (by omega)
/-- heap and list -/
theorem hp_Rg {K : Nat → List Nat} {H : Nat → pg_N → Prop} {n : Nat} : ∀ {L : List hp_N} {i : Nat} {x : hp_N}, hp_R K H n L → L[i]? = some x → x.2 < n ∧ H x.2 x.1 ∧ K x.2 = hp_t ((L.drop (i + 1)).take (hp_sz x - 1))
  | [], _, _, _, h => by simp at h
  | y :: L, 0, x, ⟨h1, _⟩, h => by
    rw [List.getElem?_cons_zero] at h
    cases h
    rw [List.drop_succ_cons, List.drop_zero]
    exact h1
  | y :: L, i + 1, x, ⟨_, h2⟩, h => by
    rw [List.getElem?_cons_succ] at h
    rw [List.drop_succ_cons]
    exact hp_Rg h2 h
def rl_a (L : List hp_N) (i : Nat) : Nat := (L.getD i ((0, 0, 0, 0), 0)).2
theorem rl_ag {L : List hp_N} {l : List pg_N} (hl : L.map (·.1) = l) {i : Nat} (hi : i < l.length) : L[i]? = some (rl_x l i, rl_a L i) := by
  have hi' : i < L.length := by rw [← hl, List.length_map] at hi; exact hi
  have e1 : L[i]? = some L[i] := List.getElem?_eq_getElem hi'
  have e2 : l[i]? = some L[i].1 := by rw [← hl, List.getElem?_map, e1]; rfl
  rw [e1, rl_xs e2]
  unfold rl_a
  rw [List.getD_eq_getElem?_getD, e1]
  rfl
theorem rl_tch {L : List hp_N} {l : List pg_N} (hl : L.map (·.1) = l) : ∀ (f s e : Nat), e ≤ l.length → rl_cl l s e → e - s ≤ f → hp_t ((L.drop s).take (e - s)) = (rl_ch l f s e).map (rl_a L)
  | 0, s, e, he, hc, hf => by
    have : e - s = 0 := by omega
    rw [this, List.take_zero]
    rfl
  | f + 1, s, e, he, hc, hf => by
    unfold rl_ch
    by_cases q : s < e
    · rw [if_pos q]
      obtain ⟨z1, z2⟩ := hc s (Nat.le_refl _) q
      have hs : s < L.length := by rw [← List.length_map (f := (·.1)) (as := L), hl]; omega
      have e1 := rl_ag hl (show s < l.length by omega)
      have e2 : L.drop s = (rl_x l s, rl_a L s) :: L.drop (s + 1) := by
        rw [List.drop_eq_getElem_cons hs]
        rw [List.getElem?_eq_getElem hs] at e1
        rw [Option.some.inj e1]
      have e3 : e - s = (e - s - 1) + 1 := by omega
      rw [e2, e3, List.take_succ_cons, hp_t_c, List.map_cons]
      congr 1
      have e4 : hp_sz (rl_x l s, rl_a L s) = rl_z l s := rfl
      rw [e4, List.drop_take, List.drop_drop]
      have e5 : s + 1 + (rl_z l s - 1) = s + rl_z l s := by omega
      have e6 : e - s - 1 - (rl_z l s - 1) = e - (s + rl_z l s) := by omega
      rw [e5, e6]
      exact rl_tch hl f (s + rl_z l s) e he (fun d hd1 hd2 => hc d (by omega) hd2) (by omega)
    · rw [if_neg q]
      have : e - s = 0 := by omega
      rw [this, List.take_zero]
      rfl
theorem rl_Kc {L : List hp_N} {l : List pg_N} {K : Nat → List Nat} {H : Nat → pg_N → Prop} {n : Nat} (hl : L.map (·.1) = l) (hw : tz_w l) (hR : hp_R K H n L) {i : Nat} (hi : i < l.length) : rl_a L i < n ∧ H (rl_a L i) (rl_x l i) ∧ K (rl_a L i) = (rl_c l i).map (rl_a L) := by
  obtain ⟨h1, h2, h3⟩ := hp_Rg hR (rl_ag hl hi)
  refine ⟨h1, h2, h3.trans ?_⟩
  have hz := rl_zc hw hi
  have e : hp_sz (rl_x l i, rl_a L i) - 1 = (i + rl_z l i) - (i + 1) := by show rl_z l i - 1 = _; omega
  rw [e]
  exact rl_tch hl l.length (i + 1) (i + rl_z l i) hz.2 (rl_cli hw hi) (by omega)
/-- no two positions have one number -/
theorem rl_inj {L : List hp_N} {l : List pg_N} {K : Nat → List Nat} {H : Nat → pg_N → Prop} {n : Nat} {F La X P : Nat → Int32} (hn : n < 2 ^ 30) (hl : L.map (·.1) = l) (hw : tz_w l) (h0 : rl_z l 0 = l.length) (hR : hp_R K H n L) (hI : hp_I F La X P n K) (ht : ∀ x ∈ L.tail, 1 ≤ x.2) (ha0 : rl_a L 0 = 0) : ∀ m i j, i + j ≤ m → i < l.length → j < l.length → rl_a L i = rl_a L j → i = j := by
  have pos : ∀ i, 0 < i → i < l.length → 1 ≤ rl_a L i := fun i h1 h2 => by
    have e := rl_ag hl h2
    cases L with
    | nil => rw [← hl] at h2; exact absurd h2 (Nat.not_lt_zero _)
    | cons x L =>
      obtain ⟨k, rfl⟩ : ∃ k, i = k + 1 := ⟨i - 1, by omega⟩
      rw [List.getElem?_cons_succ] at e
      exact ht (rl_x l (k + 1), rl_a (x :: L) (k + 1)) (List.mem_of_getElem? e)
  intro m
  induction m with
  | zero => intro i j h _ _ _; omega
  | succ m ih =>
    intro i j hm hi hj e
    by_cases qi : i = 0
    · by_cases qj : j = 0
      · omega
      · have := pos j (by omega) hj
        rw [qi, ha0] at e
        omega
    · by_cases qj : j = 0
      · have := pos i (by omega) hi
        rw [qj, ha0] at e
        omega
      · obtain ⟨p, p1, p2⟩ := rl_isc hw h0 hi (by omega)
        obtain ⟨q, q1, q2⟩ := rl_isc hw h0 hj (by omega)
        obtain ⟨a1, _, a3⟩ := rl_Kc hl hw hR (show p < l.length by omega)
        obtain ⟨b1, _, b3⟩ := rl_Kc hl hw hR (show q < l.length by omega)
        obtain ⟨u, hu⟩ := List.getElem?_of_mem p2
        obtain ⟨v, hv⟩ := List.getElem?_of_mem q2
        have ku : (K (rl_a L p))[u]? = some (rl_a L i) := by rw [a3, List.getElem?_map, hu]; rfl
        have kv : (K (rl_a L q))[v]? = some (rl_a L j) := by rw [b3, List.getElem?_map, hv]; rfl
        have e1 := (hI.2.1 _ a1 _ _ ku).2.1
        have e2 := (hI.2.1 _ b1 _ _ kv).2.1
        rw [e, e2] at e1
        have e3 := hp_inj (by omega) (by omega) e1
        have e4 : p = q := ih p q (by omega) (by omega) (by omega) e3.symm
        subst e4
        have huv : ∀ d, (K (rl_a L p))[u + d]? = (K (rl_a L p))[v + d]? := by
          intro d
          induction d with
          | zero => rw [Nat.add_zero, Nat.add_zero, ku, kv, e]
          | succ d ihd =>
            cases w : (K (rl_a L p))[u + d]? with
            | none =>
              rw [w] at ihd
              rw [List.getElem?_eq_none_iff] at w
              have w2 := List.getElem?_eq_none_iff.mp ihd.symm
              rw [List.getElem?_eq_none (by omega), List.getElem?_eq_none (by omega)]
            | some y =>
              rw [w] at ihd
              have x1 := (hI.2.1 _ a1 _ _ w).2.2
              have x2 := (hI.2.1 _ a1 _ _ ihd.symm).2.2
              rw [x1] at x2
              have hoi : ∀ (o1 o2 : Option Nat), (∀ y, o1 = some y → y < n) → (∀ y, o2 = some y → y < n) → hp_oi o1 = hp_oi o2 → o1 = o2 := by
                intro o1 o2 g1 g2 ge
                cases o1 with
                | none =>
                  cases o2 with
                  | none => rfl
                  | some y => exact absurd ge.symm (hp_ne (by have := g2 y rfl; omega))
                | some x =>
                  cases o2 with
                  | none => exact absurd ge (hp_ne (by have := g1 x rfl; omega))
                  | some y => rw [hp_inj (by have := g1 x rfl; omega) (by have := g2 y rfl; omega) ge]
              exact hoi _ _ (fun y hy => (hI.2.1 _ a1 _ _ hy).1) (fun y hy => (hI.2.1 _ a1 _ _ hy).1) x2
        have lu : u < (K (rl_a L p)).length := by
          rcases Nat.lt_or_ge u (K (rl_a L p)).length with y | y
          · exact y
          · rw [List.getElem?_eq_none y] at ku; cases ku
        have lv : v < (K (rl_a L p)).length := by
          rcases Nat.lt_or_ge v (K (rl_a L p)).length with y | y
          · exact y
          · rw [List.getElem?_eq_none y] at kv; cases kv
        have uv : u = v := by
          rcases Nat.lt_trichotomy u v with y | y | y
          · have := huv ((K (rl_a L p)).length - v)
            rw [List.getElem?_eq_none (show (K (rl_a L p)).length ≤ v + ((K (rl_a L p)).length - v) by omega), List.getElem?_eq_none_iff] at this
            omega
          · exact y
          · have := huv ((K (rl_a L p)).length - u)
            rw [List.getElem?_eq_none (show (K (rl_a L p)).length ≤ u + ((K (rl_a L p)).length - u) by omega)] at this
            have := List.getElem?_eq_none_iff.mp this.symm
            omega
        subst uv
        rw [hu] at hv
        exact Option.some.inj hv
