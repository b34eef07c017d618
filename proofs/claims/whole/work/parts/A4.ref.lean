/-! THE REFERENCE'S HEAP, by positions -/
def rg_T (t : Nat → Nat) (M n : Nat) (σ : pm_S) (l : List pg_N) (a : Nat → Nat) : Prop :=
  (tz_w l ∧ rl_z l 0 = l.length ∧ 0 < l.length ∧ l.length ≤ 16386 ∧ sh_g l ∧ nd_l (pt_T t M n) l) ∧ a 0 = 0 ∧ (∀ i j, i < l.length → j < l.length → a i = a j → i = j) ∧
  (∀ i, i < l.length → a i < 20000 ∧ σ.2.2 49 (a i) = nI (rl_k l i) ∧ σ.2.2 50 (a i) = nI (rl_x l i).2.1 ∧ rp_V t M n (rl_k l i) (σ.2.2 51 (a i)) (rl_v l i) ∧
    σ.2.2 52 (a i) = hp_oi ((rl_c l i).head?.map a) ∧ σ.2.2 53 (a i) = hp_oi ((rl_c l i).getLast?.map a) ∧
    ∀ (q c : Nat), (rl_c l i)[q]? = some c → σ.2.2 55 (a c) = nI (a i) ∧ σ.2.2 54 (a c) = hp_oi ((rl_c l i)[q + 1]?.map a)) ∧
  σ.2.2 55 0 = -1 ∧ σ.2.2 54 0 = -1
theorem rg_of {t : Nat → Nat} {M n : Nat} {σ : pm_S} {h : rp_H} {l0 : List pg_N} (Z : rp_Z t M n σ h l0) (hw : tz_w ((0, 0, 0, l0.length + 1) :: l0)) (hg : sh_g ((0, 0, 0, l0.length + 1) :: l0)) (hd : nd_l (pt_T t M n) ((0, 0, 0, l0.length + 1) :: l0)) (hl : l0.length + 1 ≤ 16386) : ∃ a, rg_T t M n σ ((0, 0, 0, l0.length + 1) :: l0) a ∧ ∀ i, i < l0.length + 1 → σ.2.2 56 (a i) = -1 ∧ σ.2.2 57 (a i) = -1 ∧ σ.2.2 58 (a i) = -1 := by
  obtain ⟨z1, L, z2, z3, z4, z5, ⟨k1, k2, k3, k4⟩, z7⟩ := Z
  generalize el : ((0, 0, 0, l0.length + 1) :: l0 : List pg_N) = l at *
  have hlen : l.length = l0.length + 1 := by rw [← el]; rfl
  have h0 : rl_z l 0 = l.length := by rw [hlen, ← el]; rfl
  have a0 : rl_a L 0 = 0 := by
    obtain ⟨x, m, e1, e2, e3⟩ := hp_t1 z4 z5
    rw [e1]
    exact e2
  have inj := rl_inj (by omega) z2 hw h0 z3 k3 z7 a0
  have free : ∀ b, b < h.1 → ∀ i, i < l.length → 0 ∉ h.2 (rl_a L i) := fun b _ i hi hm => by
    rw [(rl_Kc z2 hw z3 hi).2.2] at hm
    obtain ⟨c, hc, e⟩ := List.mem_map.mp hm
    obtain ⟨c1, c2⟩ := rl_cm hc
    have cz := (rl_zc hw hi).2
    have : c = 0 := inj (c + 0) c 0 (by omega) (by omega) (by omega) (by rw [e, a0])
    omega
  have full : ∀ b, b < h.1 → ∃ i, i < l.length ∧ rl_a L i = b := by
    have nd : (L.map (·.2)).Nodup := by
      refine List.pairwise_iff_getElem.mpr (fun i j hi hj hij e => ?_)
      have hi' : i < l.length := by rw [← z2, List.length_map]; rw [List.length_map] at hi; exact hi
      have hj' : j < l.length := by rw [← z2, List.length_map]; rw [List.length_map] at hj; exact hj
      have e1 : (L.map (·.2))[i]? = some (rl_a L i) := by rw [List.getElem?_map, rl_ag z2 hi']; rfl
      have e2 : (L.map (·.2))[j]? = some (rl_a L j) := by rw [List.getElem?_map, rl_ag z2 hj']; rfl
      rw [List.getElem?_eq_getElem hi] at e1
      rw [List.getElem?_eq_getElem hj] at e2
      rw [Option.some.inj e1, Option.some.inj e2] at e
      have := inj (i + j) i j (Nat.le_refl _) hi' hj' e
      omega
    intro b hb
    apply Classical.byContradiction
    intro hno
    have sub : (L.map (·.2)).length + 1 ≤ h.1 := by
      have hsub : (b :: L.map (·.2)).Nodup := by
        rw [List.nodup_cons]
        refine ⟨fun hm => ?_, nd⟩
        obtain ⟨j, hj⟩ := List.getElem?_of_mem hm
        have hj' : j < l.length := by
          rcases Nat.lt_or_ge j l.length with y | y
          · exact y
          · rw [List.getElem?_eq_none (by rw [List.length_map, ← List.length_map (f := (·.1)) (as := L), z2]; exact y)] at hj; cases hj
        refine hno ⟨j, hj', ?_⟩
        rw [List.getElem?_map, rl_ag z2 hj'] at hj
        exact Option.some.inj hj
      have hle : (b :: L.map (·.2)).length ≤ (List.range h.1).length := by
        refine List.Nodup.length_le_of_subset hsub (fun x hx => ?_)
        rw [List.mem_range]
        rcases List.mem_cons.mp hx with y | y
        · omega
        · obtain ⟨w, hw1, hw2⟩ := List.mem_map.mp y
          rw [← hw2]
          exact hp_Rl z3 hw1
      rw [List.length_range, List.length_cons] at hle
      exact hle
    rw [List.length_map, ← List.length_map (f := (·.1)) (as := L), z2] at sub
    omega
  have no0 : ∀ b, b < h.1 → 0 ∉ h.2 b := fun b hb => by
    obtain ⟨i, hi, e⟩ := full b hb
    rw [← e]
    exact free b hb i hi
  refine ⟨rl_a L, ⟨⟨hw, h0, by omega, by omega, hg, hd⟩, a0, fun i j h1 h2 e => inj (i + j) i j (Nat.le_refl _) h1 h2 e, fun i hi => ?_, (k3.2.2 0 (by omega) no0).1, (k3.2.2 0 (by omega) no0).2⟩, fun i hi => k4 _ (rl_Kc z2 hw z3 (by omega)).1⟩
  obtain ⟨r1, ⟨r2, r3, r4⟩, r5⟩ := rl_Kc z2 hw z3 hi
  have f1 := k3.1 _ r1
  rw [r5] at f1
  refine ⟨by omega, r2, r3, r4, ?_, ?_, fun q c hq => ?_⟩
  · rw [f1.1, List.head?_map]
  · rw [f1.2, List.getLast?_map]
  · have g := k3.2.1 _ r1 q (rl_a L c) (by rw [r5, List.getElem?_map, hq]; rfl)
    refine ⟨g.2.1, ?_⟩
    rw [g.2.2, r5, List.getElem?_map]
