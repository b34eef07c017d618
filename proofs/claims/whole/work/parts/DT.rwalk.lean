/-! what the reference doesn't do: cells of loops, choices, ladders are given as the block ends -/
theorem rr_tk {l : List pg_N} {a : Nat → Nat} {R : Int32 → Int32 → Prop} {σ0 σ : pm_S} {u n : Nat} {y : rl_B} {r : List rl_B} {T : (Nat → Int32) × (Nat → Int32) × (Nat → Int32)} (h : rr_I l a R σ0 σ true u (y :: r, T)) : rr_I l a R σ0 σ true u (rl_tk (y :: r, T) n) := by
  obtain ⟨h0, h1, h2, hD, hb, hv, h6⟩ := h
  refine ⟨h0, h1, h2, hD, ?_, hv, h6⟩
  obtain ⟨b1, b2, b3⟩ := hb
  refine ⟨b1, b2, fun b x hx => ?_⟩
  have hx : rl_blk ((y.1, y.2.1, y.2.2.1, y.2.2.2.1 + n, y.2.2.2.2) :: r) b = some x := hx
  have frE : ∀ b, b ≤ r.length → rv_fr ((y.1, y.2.1, y.2.2.1, y.2.2.2.1 + n, y.2.2.2.2) :: r) b = rv_fr (y :: r) b := fun b hb' => by
    unfold rv_fr
    rw [List.length_cons, List.length_cons, show r.length + 1 - b = (r.length - b) + 1 by omega, List.drop_succ_cons, List.drop_succ_cons]
  rw [rl_blkc] at hx
  by_cases q : b = r.length
  · rw [if_pos q] at hx
    cases hx
    obtain ⟨g1, g2, g3, g4, g5, g6, g7⟩ := b3 b y (by show rl_blk (y :: r) b = _; rw [rl_blkc, if_pos q])
    refine ⟨g1, g2, g3, g4, ?_, ?_, fun z => ?_⟩
    · show _ = nI (rv_fr ((y.1, y.2.1, y.2.2.1, y.2.2.2.1 + n, y.2.2.2.2) :: r) b)
      rw [frE b (by omega)]; exact g5
    · show _ = nI (rv_fr ((y.1, y.2.1, y.2.2.1, y.2.2.2.1 + n, y.2.2.2.2) :: r) b + _)
      rw [frE b (by omega)]; exact g6
    · rcases z with z | z
      · cases z
      · have z : b + 1 < r.length + 1 := z
        omega
  · rw [if_neg q] at hx
    have hl := rl_blkl hx
    obtain ⟨g1, g2, g3, g4, g5, g6, g7⟩ := b3 b x (by show rl_blk (y :: r) b = _; rw [rl_blkc, if_neg q]; exact hx)
    refine ⟨g1, g2, g3, g4, ?_, ?_, g7⟩
    · show _ = nI (rv_fr ((y.1, y.2.1, y.2.2.1, y.2.2.2.1 + n, y.2.2.2.2) :: r) b)
      rw [frE b (by omega)]; exact g5
    · show _ = nI (rv_fr ((y.1, y.2.1, y.2.2.1, y.2.2.2.1 + n, y.2.2.2.2) :: r) b + _)
      rw [frE b (by omega)]; exact g6
theorem rr_cs {l : List pg_N} {a : Nat → Nat} {R : Int32 → Int32 → Prop} {σ0 σ : pm_S} {u i : Nat} {A : rl_A} {x : Int32} (h : rr_I l a R σ0 σ true u A) (hi : rr_in l A.1 i) (hs : rr_sc l i) : rr_I l a R σ0 σ true u (rl_ce A i x) := by
  obtain ⟨h0, h1, h2, hD, hb, hv, h6⟩ := h
  refine ⟨h0, h1, h2, fun j hj => ?_, hb, hv, h6⟩
  obtain ⟨d1, d2, d3⟩ := hD j hj
  refine ⟨d1, fun z => ?_, d3⟩
  show _ = rl_set A.2.2.1 i x j
  by_cases q : j = i
  · rw [q] at z
    exact absurd ⟨rfl, hi, hs⟩ z
  · rw [rl_setn q]; exact d2 z
theorem rr_ms {l : List pg_N} {a : Nat → Nat} {R : Int32 → Int32 → Prop} {σ0 σ : pm_S} {u i : Nat} {A : rl_A} {x : Int32} (h : rr_I l a R σ0 σ true u A) (hi : rr_in l A.1 i) (hs : rl_k l i = 19) : rr_I l a R σ0 σ true u (rl_me A i x) := by
  obtain ⟨h0, h1, h2, hD, hb, hv, h6⟩ := h
  refine ⟨h0, h1, h2, fun j hj => ?_, hb, hv, h6⟩
  obtain ⟨d1, d2, d3⟩ := hD j hj
  refine ⟨d1, d2, fun z => ?_⟩
  show _ = rl_set A.2.2.2 i x j
  by_cases q : j = i
  · rw [q] at z
    exact absurd ⟨rfl, hi, hs⟩ z
  · rw [rl_setn q]; exact d3 z
/-- a node that is no block is entered -/
theorem rr_ein {l : List pg_N} {a : Nat → Nat} {R : Int32 → Int32 → Prop} {σ0 σ : pm_S} {u i : Nat} {y : rl_B} {r : List rl_B} {T : (Nat → Int32) × (Nat → Int32) × (Nat → Int32)} (h : rr_I l a R σ0 σ true u (y :: r, T)) (hi : rr_in l (y :: r) i) (hk : ¬ (1 ≤ rl_k l i ∧ rl_k l i ≤ 3)) : rr_I l a R σ0 σ true u (rl_in l (y :: r, T) i).2 := by
  rw [rl_in_o hk]
  by_cases k16 : rl_k l i = 16
  · rw [if_pos k16]; exact rr_tk (rr_cs h hi (Or.inl k16))
  rw [if_neg k16]
  by_cases k19 : rl_k l i = 19
  · rw [if_pos k19]; exact rr_tk (rr_ms h hi k19)
  rw [if_neg k19]
  by_cases k25 : rl_k l i = 25 ∧ 2 ≤ (rl_v l i).toInt
  · rw [if_pos k25]; exact rr_tk (rr_cs h hi (Or.inr k25))
  rw [if_neg k25]; exact h
/-- a block is left -/
theorem re274x {d : Nat} {l : List pg_N} {a : Nat → Nat} {R : Int32 → Int32 → Prop} {σ0 σ : pm_S} {Q : Option Value → pm_S → Prop} {NN u u' i : Nat} {y : rl_B} {r : List rl_B} {T : (Nat → Int32) × (Nat → Int32) × (Nat → Int32)} (hG : lg_G l NN) (h0r : rl_k l 0 = 0) (h : rr_I l a R σ0 σ true u (y :: r, T)) (hy : y.2.2.1 = i) (i0 : i < l.length) (hk : 1 ≤ rl_k l i ∧ rl_k l i ≤ 3) (hp : pv_B (y :: r)) (hI : pe_I l u i (i + rl_z l i) (y :: r, T)) (hQ : ∀ σ', rr_F σ0 σ' → ((rl_out l (y :: r, T) i).1 = 0 → rr_I l a R σ0 σ' false u' (rl_out l (y :: r, T) i).2) → Q (some (.int (nI (rl_out l (y :: r, T) i).1))) σ') : pm_call pm_Y0 (d + 2) 274 [.ref 10, .int (nI (a i))] σ Q := by
  obtain ⟨jl, g1, g2, g3, g4, g5⟩ := lg_bl hG i0 hk
  have gl : (rl_c l i).getLastD 0 = jl := by rw [List.getLastD_eq_getLast?, g1]; rfl
  have eo : rl_out l (y :: r, T) i = (if rl_k l i = 1 ∧ 8 < rl_nin y then 44 else 0, (y :: r, T)) := by
    by_cases k1 : rl_k l i = 1
    · rw [rl_o1 k1]
      show (if 8 < rl_nin y then 44 else 0, (y :: r, T)) = _
      by_cases q : 8 < rl_nin y
      · rw [if_pos q, if_pos ⟨k1, q⟩]
      · rw [if_neg q, if_neg (fun z => q z.2)]
    · rw [rl_on (by omega), if_neg (fun z => k1 z.1)]
  rw [eo] at hQ
  obtain ⟨_, h2, h3⟩ := hI
  have h2 : ∀ j, y.2.2.1 < j → j < i + rl_z l i → (rr_sc l j → T.2.1 j = nI (pe_u l u y.2.2.1 j)) ∧ (rl_k l j = 19 → T.2.2 j = nI (pe_u l u y.2.2.1 j)) := h2
  have h3 : y.2.2.2.1 = pe_u l u y.2.2.1 (i + rl_z l i) + (if i = y.2.2.1 ∧ i + rl_z l i = y.2.2.1 + rl_z l y.2.2.1 ∧ rl_k l ((rl_c l y.2.2.1).getLastD 0) = 22 then 156 else 0) := h3
  rw [hy] at h2 h3
  rw [gl] at h3
  have zi := rl_zc hG.1 i0
  have bl := fun j (a1 : i < j) (a2 : j < i + rl_z l i) => sp_bl hG h0r i0 hk g1 a1 a2
  have n1 : rl_k l jl = 11 → ∀ j, i < j → j < i + rl_z l i → sp_1 l j = false := fun w j a1 a2 => by
    cases e : sp_1 l j with
    | false => rfl
    | true => have := ((bl j a1 a2).2 e).2; omega
  have n0 : rl_k l jl = 22 → ∀ j, i < j → j < i + rl_z l i → sp_0 l j = false := fun w j a1 a2 => by
    cases e : sp_0 l j with
    | false => rfl
    | true => have := ((bl j a1 a2).1 e).2; omega
  have ca1 : rl_k l jl = 11 → ∀ n, n ≤ rl_z l i - 1 → cn (sp_a l) (i + 1) n = cn (sp_0 l) (i + 1) n := fun w n hn => cn_e (fun j a1 a2 => by unfold sp_a; rw [n1 w j (by omega) (by omega), Bool.or_false])
  have ca0 : rl_k l jl = 22 → ∀ n, n ≤ rl_z l i - 1 → cn (sp_a l) (i + 1) n = cn (sp_1 l) (i + 1) n := fun w n hn => cn_e (fun j a1 a2 => by unfold sp_a; rw [n0 w j (by omega) (by omega), Bool.false_or])
  have cz1 : rl_k l jl = 11 → cn (sp_1 l) (i + 1) (rl_z l i - 1) = 0 := fun w => cn_z (fun j a1 a2 => n1 w j (by omega) (by omega))
  have cz0 : rl_k l jl = 22 → cn (sp_0 l) (i + 1) (rl_z l i - 1) = 0 := fun w => cn_z (fun j a1 a2 => n0 w j (by omega) (by omega))
  have pu : ∀ c, i < c → pe_u l u i c = u + cn (sp_a l) (i + 1) (c - i - 1) := fun c hc => by
    unfold pe_u
    rw [show c - (i + 1) = c - i - 1 by omega]
  refine re274 hG h hy i0 hk hp g1 g2 (fun c c1 c2 => ?_) (fun c c1 c2 c3 c4 => ?_) ?_ hQ
  · have ka : rl_k l c = 16 ∨ rl_k l c = 19 → rl_k l jl = 11 := fun w => ((bl c c1 c2).1 (decide_eq_true w)).2
    refine ⟨fun w => ?_, fun w => ?_⟩
    · rw [(h2 c c1 c2).1 (Or.inl w), pu c c1, ca1 (ka (Or.inl w)) _ (by omega)]
    · rw [(h2 c c1 c2).2 w, pu c c1, ca1 (ka (Or.inr w)) _ (by omega)]
  · have ka := ((bl c c1 c2).2 (decide_eq_true ⟨c3, c4⟩)).2
    rw [(h2 c c1 c2).1 (Or.inr ⟨c3, c4⟩), pu c c1, ca0 ka _ (by omega), cz0 ka]
    exact congrArg nI (by omega)
  · rw [h3, pu _ (by omega), show i + rl_z l i - i - 1 = rl_z l i - 1 by omega]
    rcases g3 with w | w
    · rw [ca1 w _ (Nat.le_refl _), cz1 w, if_neg (fun z => by omega), if_neg (by omega)]
    · rw [ca0 w _ (Nat.le_refl _), cz0 w, if_pos ⟨rfl, rfl, w⟩, if_pos w]
      omega
