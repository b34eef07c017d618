/-! THE WALK of the reference: what it needs to know of the current block. u: its cells but for those of loops, choices and ladders -/
def pe_u (l : List pg_N) (u b j : Nat) : Nat := u + cn (sp_a l) (b + 1) (j - (b + 1))
def pe_I (l : List pg_N) (u i nx : Nat) (A : rl_A) : Prop := (∀ j, (rl_hd A.1).2.2.1 < j → j < nx → j ≠ i → j ∉ rl_up l i → pe_N l A j) ∧ (∀ j, (rl_hd A.1).2.2.1 < j → j < nx → (rr_sc l j → A.2.2.1 j = nI (pe_u l u (rl_hd A.1).2.2.1 j)) ∧ (rl_k l j = 19 → A.2.2.2 j = nI (pe_u l u (rl_hd A.1).2.2.1 j))) ∧ (rl_hd A.1).2.2.2.1 = pe_u l u (rl_hd A.1).2.2.1 nx + (if i = (rl_hd A.1).2.2.1 ∧ nx = (rl_hd A.1).2.2.1 + rl_z l (rl_hd A.1).2.2.1 ∧ rl_k l ((rl_c l (rl_hd A.1).2.2.1).getLastD 0) = 22 then 156 else 0)
theorem sp_ai {l : List pg_N} {j : Nat} : sp_a l j = true ↔ (rl_k l j = 16 ∨ rl_k l j = 19 ∨ (rl_k l j = 25 ∧ 2 ≤ (rl_v l j).toInt)) := by
  unfold sp_a sp_0 sp_1
  rw [Bool.or_eq_true, decide_eq_true_eq, decide_eq_true_eq]
  constructor
  · rintro ((h | h) | h)
    · exact Or.inl h
    · exact Or.inr (Or.inl h)
    · exact Or.inr (Or.inr h)
  · rintro (h | h | h)
    · exact Or.inl (Or.inl h)
    · exact Or.inl (Or.inr h)
    · exact Or.inr h
theorem pe_us {l : List pg_N} {u b j : Nat} (h : b < j) : pe_u l u b (j + 1) = pe_u l u b j + (if sp_a l j = true then 1 else 0) := by
  unfold pe_u
  rw [cn_u (by omega), Nat.add_assoc]
/-- a node that is no block is entered -/
theorem pe_Ee {l : List pg_N} {NN u i nx : Nat} {y : rl_B} {r : List rl_B} {T : (Nat → Int32) × (Nat → Int32) × (Nat → Int32)} (hG : lg_G l NN) (hi : i < l.length) (hb : y.2.2.1 = i ∨ y.2.2.1 ∈ rl_up l i) (hin : i < nx) (hc : nx ∈ rl_c l i) (hk : ¬ (1 ≤ rl_k l nx ∧ rl_k l nx ≤ 3)) (h : pe_I l u i nx (y :: r, T)) : pe_I l u nx (nx + 1) (rl_in l (y :: r, T) nx).2 := by
  obtain ⟨h1, h2, h3⟩ := h
  have cm := rl_cm hc
  have upn := rl_upc hG.1 hi hc
  have by_ : y.2.2.1 ≤ i := by
    rcases hb with w | w
    · omega
    · have := rl_upl w; omega
  have h1 : ∀ j, y.2.2.1 < j → j < nx → j ≠ i → j ∉ rl_up l i → pe_N l (y :: r, T) j := h1
  have h2 : ∀ j, y.2.2.1 < j → j < nx → (rr_sc l j → T.2.1 j = nI (pe_u l u y.2.2.1 j)) ∧ (rl_k l j = 19 → T.2.2 j = nI (pe_u l u y.2.2.1 j)) := h2
  have h3 : y.2.2.2.1 = pe_u l u y.2.2.1 nx := by
    have h3 : y.2.2.2.1 = pe_u l u y.2.2.1 nx + (if i = y.2.2.1 ∧ nx = y.2.2.1 + rl_z l y.2.2.1 ∧ rl_k l ((rl_c l y.2.2.1).getLastD 0) = 22 then 156 else 0) := h3
    rw [if_neg (fun z => by rw [z.1] at cm; omega)] at h3
    exact h3
  have n1 : ∀ j, y.2.2.1 < j → j < nx + 1 → j ≠ nx → j ∉ rl_up l nx → pe_N l (y :: r, T) j := fun j a1 a2 a3 a4 => h1 j a1 (by omega) (fun z => a4 (by rw [upn, z]; exact List.mem_cons_self ..)) (fun z => a4 (by rw [upn]; exact List.mem_cons_of_mem _ z))
  have fz : (if nx = y.2.2.1 ∧ nx + 1 = y.2.2.1 + rl_z l y.2.2.1 ∧ rl_k l ((rl_c l y.2.2.1).getLastD 0) = 22 then 156 else 0) = 0 := if_neg (fun z => by omega)
  have us := pe_us (l := l) (u := u) (show y.2.2.1 < nx by omega)
  have uc : ∀ x, x ∈ [16, 25] → rl_k l nx = x → sp_a l nx = true → pe_I l u nx (nx + 1) (rl_tk (rl_ce (y :: r, T) nx (nI y.2.2.2.1)) 1) := fun x hx hkx hs => by
    refine ⟨n1, fun j a1 a2 => ?_, ?_⟩
    · by_cases q : j = nx
      · rw [q]
        refine ⟨fun _ => ?_, fun z => ?_⟩
        · show rl_set T.2.1 nx _ nx = _
          rw [rl_sets, h3]; rfl
        · rcases List.mem_cons.mp hx with w | w
          · omega
          · have := List.mem_singleton.mp w; omega
      · refine ⟨fun z => ?_, (h2 j a1 (by omega)).2⟩
        show rl_set T.2.1 nx _ j = _
        rw [rl_setn q]
        exact (h2 j a1 (by omega)).1 z
    · show y.2.2.2.1 + 1 = pe_u l u y.2.2.1 (nx + 1) + (if nx = y.2.2.1 ∧ nx + 1 = y.2.2.1 + rl_z l y.2.2.1 ∧ rl_k l ((rl_c l y.2.2.1).getLastD 0) = 22 then 156 else 0)
      rw [fz, us, if_pos hs, h3]
  rw [rl_in_o hk]
  by_cases k16 : rl_k l nx = 16
  · rw [if_pos k16]
    exact uc 16 (by decide) k16 (sp_ai.mpr (Or.inl k16))
  rw [if_neg k16]
  by_cases k19 : rl_k l nx = 19
  · rw [if_pos k19]
    refine ⟨n1, fun j a1 a2 => ?_, ?_⟩
    · by_cases q : j = nx
      · rw [q]
        refine ⟨fun z => ?_, fun _ => ?_⟩
        · rcases z with z | z <;> omega
        · show rl_set T.2.2 nx _ nx = _
          rw [rl_sets]
          show nI y.2.2.2.1 = _
          rw [h3]; rfl
      · refine ⟨(h2 j a1 (by omega)).1, fun z => ?_⟩
        show rl_set T.2.2 nx _ j = _
        rw [rl_setn q]
        exact (h2 j a1 (by omega)).2 z
    · show y.2.2.2.1 + 1 = pe_u l u y.2.2.1 (nx + 1) + (if nx = y.2.2.1 ∧ nx + 1 = y.2.2.1 + rl_z l y.2.2.1 ∧ rl_k l ((rl_c l y.2.2.1).getLastD 0) = 22 then 156 else 0)
      rw [fz, us, if_pos (sp_ai.mpr (Or.inr (Or.inl k19))), h3]
  rw [if_neg k19]
  by_cases k25 : rl_k l nx = 25 ∧ 2 ≤ (rl_v l nx).toInt
  · rw [if_pos k25]
    exact uc 25 (by decide) k25.1 (sp_ai.mpr (Or.inr (Or.inr k25)))
  rw [if_neg k25]
  have ns : ¬ sp_a l nx = true := fun z => by
    rcases sp_ai.mp z with w | w | w
    · exact k16 w
    · exact k19 w
    · exact k25 w
  refine ⟨n1, fun j a1 a2 => ?_, ?_⟩
  · by_cases q : j = nx
    · rw [q]
      refine ⟨fun z => ?_, fun z => absurd z k19⟩
      rcases z with z | z
      · exact absurd z k16
      · exact absurd z k25
    · exact h2 j a1 (by omega)
  · show y.2.2.2.1 = pe_u l u y.2.2.1 (nx + 1) + (if nx = y.2.2.1 ∧ nx + 1 = y.2.2.1 + rl_z l y.2.2.1 ∧ rl_k l ((rl_c l y.2.2.1).getLastD 0) = 22 then 156 else 0)
    rw [fz, us, if_neg ns, h3, Nat.add_zero]
/-- a block is entered -/
theorem pe_Eb {l : List pg_N} {NN nx : Nat} {A : rl_A} (hG : lg_G l NN) (hl : nx < l.length) (hk : 1 ≤ rl_k l nx ∧ rl_k l nx ≤ 3) (hf : (rl_in l A nx).1 = 0) : pe_I l (rl_u0 l nx) nx (nx + 1) (rl_in l A nx).2 := by
  obtain ⟨jl, g1, g2, g3, g4, g5⟩ := lg_bl hG hl hk
  have cm := rl_cm g2
  rw [rl_in_b hk] at hf ⊢
  by_cases a : (rl_cur A).1 = 3
  · rw [if_pos a] at hf; exact absurd (show (10 : Nat) = 0 from hf) (by decide)
  rw [if_neg a] at hf ⊢
  by_cases b : rl_taken A (rl_v l nx) = true
  · rw [if_pos b] at hf; exact absurd (show (11 : Nat) = 0 from hf) (by decide)
  rw [if_neg b]
  refine ⟨fun j a1 a2 => ?_, fun j a1 a2 => ?_, ?_⟩
  · have a1 : nx < j := a1
    omega
  · have a1 : nx < j := a1
    omega
  · show (if rl_k l nx = 3 then 960 else if rl_k l nx = 1 then 1 else 0) = pe_u l (rl_u0 l nx) nx (nx + 1) + (if nx = nx ∧ nx + 1 = nx + rl_z l nx ∧ rl_k l ((rl_c l nx).getLastD 0) = 22 then 156 else 0)
    rw [if_neg (c := nx = nx ∧ _) (fun z => by omega)]
    unfold pe_u
    rw [Nat.sub_self]
    rfl
/-- what becomes of the newest block as a node is left -/
theorem rl_oh {l : List pg_N} {NN i : Nat} (hG : lg_G l NN) (hi : i < l.length) {y : rl_B} {r : List rl_B} {T : (Nat → Int32) × (Nat → Int32) × (Nat → Int32)} : (rl_hd (rl_out l (y :: r, T) i).2.1).2.2.1 = y.2.2.1 ∧ (rl_k l i ≠ 5 → (rl_hd (rl_out l (y :: r, T) i).2.1).2.2.2.1 = y.2.2.2.1 + (if rl_k l i = 22 then 156 else 0)) := by
  have hl := (lg_V hG hi).1
  by_cases h5 : rl_k l i = 5
  · refine ⟨?_, fun z => absurd h5 z⟩
    obtain ⟨m, hp, yt, c, D⟩ := lg_5 hG hi h5
    rw [rl_o5 h5, rl_decl_u D]
    have I := @if_2 (fun z => (rl_hd z.2.1).2.2.1 = y.2.2.1)
    exact I (by exact rfl) (I (by exact rfl) (I (by exact rfl) (I (by exact rfl) (by exact rfl))))
  by_cases h7 : rl_k l i = 7
  · rw [rl_o7 h7]
    exact ⟨rfl, fun _ => by rw [if_neg (c := rl_k l i = 22) (by omega)]; rfl⟩
  by_cases h22 : rl_k l i = 22
  · rw [rl_o22 h22]
    exact ⟨rfl, fun _ => by rw [if_pos h22]; rfl⟩
  by_cases h6 : rl_k l i = 6 ∧ rl_k l (rl_par l i) = 5
  · rw [rl_o6 h6.1, if_pos h6.2, if_neg h22]
    split
    · exact ⟨rfl, fun _ => rfl⟩
    · exact ⟨rfl, fun _ => rfl⟩
  have oA := (rl_oA (l := l) (A := (y :: r, T)) (i := i) hl h5 h7 h22 (fun a b => h6 ⟨a, b⟩)).1
  rw [oA, if_neg h22]
  exact ⟨rfl, fun _ => rfl⟩
/-- the block around a node -/
theorem lg_blk {l : List pg_N} {NN b p i : Nat} (hG : lg_G l NN) (h0r : rl_k l 0 = 0) (hi : i < l.length) (kb : 1 ≤ rl_k l b ∧ rl_k l b ≤ 3) (kp : 1 ≤ rl_k l p ∧ rl_k l p ≤ 3) (hb : b ∈ rl_up l i) (hp : p = rl_par l i) : b = p := by
  obtain ⟨m1, m2⟩ := rl_upm.mp hb
  obtain ⟨e1, e2⟩ := rl_pge hG hi m1 m2
  obtain ⟨p1, p2, p3⟩ := lg_par hG hi (by omega)
  rw [← hp] at e1 e2 p1
  rcases Nat.eq_or_lt_of_le e1 with w | w
  · exact w
  · exfalso
    have z0 := lg_b0 hG (show p < l.length by omega) (by omega) kp
    have pz := (rl_zc hG.1 (show p < l.length by omega)).1
    have := (rl_pge hG (show p < l.length by omega) w (by omega)).1
    have b0 : b = 0 := by omega
    rw [b0, h0r] at kb
    omega
/-- a node that is no block is left -/
theorem pe_L {l : List pg_N} {NN u i nx : Nat} {y : rl_B} {r : List rl_B} {T : (Nat → Int32) × (Nat → Int32) × (Nat → Int32)} (hG : lg_G l NN) (h0r : rl_k l 0 = 0) (hi : i < l.length) (hp : pv_B (y :: r)) (hB9 : (y :: r).length ≤ 409) (hbl : ∀ z ∈ y :: r, z.2.2.1 < l.length ∧ rl_k l z.2.2.1 = z.1) (hb : y.2.2.1 ∈ rl_up l i) (hn : nx = i + rl_z l i) (hf : (rl_out l (y :: r, T) i).1 = 0) (h : pe_I l u i nx (y :: r, T)) : pe_I l (if rl_k l i = 5 then (rl_cur (rl_out l (y :: r, T) i).2).2.2.2.1 else u) (rl_par l i) nx (rl_out l (y :: r, T) i).2 := by
  obtain ⟨h1, h2, h3⟩ := h
  obtain ⟨m1, m2⟩ := rl_upm.mp hb
  have i0 : 0 < i := by omega
  obtain ⟨p1, p2, p3⟩ := lg_par hG hi i0
  have up := (rl_upu hG hi i0).1
  have h1 : ∀ j, y.2.2.1 < j → j < nx → j ≠ i → j ∉ rl_up l i → pe_N l (y :: r, T) j := h1
  have h2 : ∀ j, y.2.2.1 < j → j < nx → (rr_sc l j → T.2.1 j = nI (pe_u l u y.2.2.1 j)) ∧ (rl_k l j = 19 → T.2.2 j = nI (pe_u l u y.2.2.1 j)) := h2
  have h3 : y.2.2.2.1 = pe_u l u y.2.2.1 nx := by
    have h3 : y.2.2.2.1 = pe_u l u y.2.2.1 nx + (if i = y.2.2.1 ∧ nx = y.2.2.1 + rl_z l y.2.2.1 ∧ rl_k l ((rl_c l y.2.2.1).getLastD 0) = 22 then 156 else 0) := h3
    rw [if_neg (fun z => by omega)] at h3
    exact h3
  obtain ⟨yl, yk⟩ := hbl y (List.mem_cons_self ..)
  have kb : 1 ≤ rl_k l y.2.2.1 ∧ rl_k l y.2.2.1 ≤ 3 := by rw [yk]; exact hp.1.1
  obtain ⟨o1, o2⟩ := rl_oh (T := T) (y := y) (r := r) hG hi
  obtain ⟨t1, t2, t3⟩ := rl_ot hG hi (y :: r, T)
  obtain ⟨jl, g1, g2, g3, g4, g5⟩ := lg_bl hG yl kb
  have gl : (rl_c l y.2.2.1).getLastD 0 = jl := by rw [List.getLastD_eq_getLast?, g1]; rfl
  have iz := rl_zl hG.1 yl m1 m2
  have N : ∀ j, y.2.2.1 < j → j < nx → j ≠ rl_par l i → j ∉ rl_up l (rl_par l i) → pe_N l (rl_out l (y :: r, T) i).2 j := fun j a1 a2 a3 a4 => by
    by_cases q : j = i
    · rw [q]
      refine pe_Ni hG hi hp (by intro w; cases w) hB9 (fun b z hz => hbl z ?_) (fun c hc => ?_) hf
      · exact List.mem_reverse.mp (List.mem_of_getElem? (show (y :: r).reverse[b]? = some z from hz))
      · have cm := rl_cm hc
        exact h1 c (by omega) (by omega) (by omega) (fun w => by have := rl_upl w; omega)
    · have hN := h1 j a1 a2 q (fun w => by
        rw [up] at w
        rcases List.mem_cons.mp w with v | v
        · exact a3 v
        · exact a4 v)
      exact ⟨fun w => by rw [t1 j q]; exact hN.1 w, fun w => (rl_fo hG hi (hN.2 w)).1⟩
  unfold pe_I
  rw [o1]
  refine ⟨N, ?_⟩
  by_cases k5 : rl_k l i = 5
  · rw [if_pos k5]
    have nz : ∀ j, y.2.2.1 < j → j < nx → sp_a l j = false := fun j a1 a2 => sp_5 hG h0r yl kb hi k5 hb a1 (by omega)
    refine ⟨fun j a1 a2 => ⟨fun z => ?_, fun z => ?_⟩, ?_⟩
    · have := nz j a1 a2
      rw [sp_ai.mpr (by rcases z with z | z; exact Or.inl z; exact Or.inr (Or.inr z))] at this
      cases this
    · have := nz j a1 a2
      rw [sp_ai.mpr (Or.inr (Or.inl z))] at this
      cases this
    · rw [if_neg (fun z => by
        have hR := lg_Rp hG hi i0
        rw [z.1, k5] at hR
        have := sh_k5 _ (by have := (lg_V hG yl).1; omega) 5 (by decide) hR rfl
        omega)]
      unfold pe_u
      rw [cn_z (fun j a1 a2 => nz j (by omega) (by omega))]
      rfl
  · rw [if_neg k5]
    refine ⟨fun j a1 a2 => ⟨fun z => (t2 j z).trans ((h2 j a1 a2).1 z), fun z => (t3 j z).trans ((h2 j a1 a2).2 z)⟩, ?_⟩
    rw [o2 k5, h3, gl]
    congr 1
    by_cases k22 : rl_k l i = 22
    · have hR := lg_Rp hG hi i0
      rw [k22] at hR
      have kp := sh_k22 _ (by have := (lg_V hG (show rl_par l i < l.length by omega)).1; omega) 22 (by decide) hR rfl
      have pb := lg_blk hG h0r hi kb (by omega) hb rfl
      rw [← pb] at p2
      have il : i = jl := by
        rcases g5 i p2 with w | w | w
        · exact w
        · omega
        · omega
      rw [if_pos k22, if_pos ⟨pb.symm, by rw [hn, ← g4, il], by rw [← il]; exact k22⟩]
    · rw [if_neg k22, if_neg]
      rintro ⟨z1, z2, z3⟩
      rw [z1] at p2
      have il : i ≠ jl := fun w => k22 (by rw [w]; exact z3)
      rcases Nat.lt_or_ge i jl with w | w
      · have := rl_dj hG yl p2 g2 w
        have := rl_cm g2
        omega
      · have := rl_dj hG yl g2 p2 (by omega)
        have := rl_cm p2
        omega
