/-! JUDGE, both sides: they answer alike, and the invariant stays -/
def ju_J (σ : pm_S) : Prop := ∃ ns, nt_I σ 1 12 13 14 15 ns ∧ nl_N 8 <+: ns
theorem ju_hJ : ∀ σ τ, iv_same σ τ → ju_J σ → ju_J τ := fun σ τ h ⟨ns, h1, h2⟩ => ⟨ns, nt_x h1 (h.i 1 4 (by decide)) (fun k k1 k2 => h.r k (by omega)), h2⟩
theorem ju_h0 : ∀ σN, nt_I σN 0 1 2 3 4 (nl_N 8) → iv_Inv ju_J (ws_σ σN) := fun σN h => by
  refine ⟨⟨0, by decide, rfl, rfl, rfl, fun i => ⟨0, by decide, rfl⟩⟩, ⟨0, 0, by decide, by decide, rfl, rfl, rfl, rfl, fun z => absurd z (by decide), (show (0 : Int32) ≤ 16386 by decide), (show (0 : Int32) ≤ 418 by decide), (show (0 : Int32) ≤ 800 by decide), rfl, fun i hi => absurd hi (Nat.not_lt_zero _), Or.inl ⟨rfl, rfl, rfl⟩⟩, nl_N 8, ?_, List.prefix_refl _⟩
  generalize nl_N 8 = ns at *
  unfold nt_I nm_I nm_S at *
  exact h
theorem nI_lex {a b : Nat} (ha : a < 2 ^ 31) (hb : b < 2 ^ 31) (h : a ≤ b) : nI a ≤ nI b := by
  rw [i_le, nI_toInt ha, nI_toInt hb]; omega
theorem ju_len {t : Nat → Nat} {M n : Nat} (hN : rp_n t M n) (rc : (tx_c (pt_T t M n)).1 < n) (h : pt_f (pt_T t M n) (tx_c (pt_T t M n)) = 0) : (tx_l (pt_T t M n)).length ≤ 16386 := by
  refine (tx_G hN rc (pt_f0 h (fun z w => ?_)).1).1.2.2.2.1
  have z : lx_k t M lx_ns (tx_c (pt_T t M n)).1 = 45 := by
    rw [show (pt_T t M n).1 (tx_c (pt_T t M n)).1 = lx_k t M lx_ns (tx_c (pt_T t M n)).1 from if_pos rc] at z
    exact z
  obtain ⟨v1, v2⟩ := lx_bad (s := lx_at t M lx_ns (tx_c (pt_T t M n)).1) z
  have w : nI (lx_v t M lx_ns (tx_c (pt_T t M n)).1) = 0 := w
  have := hp_inj (b := 0) (by have v2 : lx_v t M lx_ns (tx_c (pt_T t M n)).1 ≤ 5 := v2; omega) (by decide) w
  have v1 : 1 ≤ lx_v t M lx_ns (tx_c (pt_T t M n)).1 := v1
  omega
theorem ju_step : ∀ σ, iv_Inv ju_J σ → iv_Step ju_J 1000 5 200 [] σ := fun σ hh => by
  obtain ⟨⟨M, hM, e6, e1, e43, hby⟩, hR, ns, hI, hp⟩ := hh
  have tt : ∀ i, (σ.2.2 43 i).toNatClampNeg < 256 ∧ σ.2.2 43 i = nI (σ.2.2 43 i).toNatClampNeg := fun i => by
    obtain ⟨b, b1, b2⟩ := hby i
    rw [b2, nI_clamp (by omega)]
    exact ⟨b1, rfl⟩
  obtain ⟨t, ht⟩ : ∃ t : Nat → Nat, t = fun i => (σ.2.2 43 i).toNatClampNeg := ⟨_, rfl⟩
  have ht1 : ∀ i, t i < 256 := fun i => by rw [ht]; exact (tt i).1
  have ht2 : ∀ i, σ.2.2 43 i = nI (t i) := fun i => by rw [ht]; exact (tt i).2
  clear ht tt
  unfold iv_Step
  refine cju hM e6 (fun i => by rw [e43]; exact ht2 i) ht1 hI hp (fun n τ hN RJ => ⟨_, rfl, ?_⟩)
  obtain ⟨F, NI, j7, rc, J⟩ := RJ
  refine rju hN ⟨(F.1 1).trans e1, hM, fun i => by rw [F.2.2.2 43 (Or.inr (by decide))]; exact ht2 i, ht1⟩ (fun τ2 RR => ⟨rfl, ?_⟩)
  obtain ⟨G, RR⟩ := RR
  have g : ∀ a b, a ≠ 10 → τ2.1 a b = τ.1 a b := G.1
  have a11 : τ2.2.2 11 = σ.2.2 11 := (G.2.2 11 (by decide)).trans (F.2.2.2 11 (Or.inl rfl))
  have a43 : τ2.2.2 43 = σ.2.2 43 := (G.2.2 43 (by decide)).trans (F.2.2.2 43 (Or.inr (by decide)))
  refine ⟨⟨M, hM, (g 0 6 (by decide)).trans (F.2.1.trans e6), G.2.1.trans ((F.1 1).trans e1), by rw [a11, a43]; exact e43, by rw [a43]; exact hby⟩, ?_, _, nt_x NI (g 1 4 (by decide)) (fun k k1 k2 => G.2.2 k (by omega)), show lx_ns <+: _ from lx_nsp n⟩
  rcases J with ⟨f0, j8, j9, j10, j11, ⟨m, m1, m2⟩, j58⟩ | ⟨p0, f0, j8, j9, j10, j11, ⟨m, m1, m2⟩, c, c1, c2⟩ | ⟨p0, f0, j8, j9, j10, j11, j38, j58, jl, jn, jb, jp⟩
  · rcases RR with ⟨r0, r50, r51, r54, ⟨q, q1, q2⟩, r52, _⟩ | ⟨z, _⟩
    · obtain ⟨_, _, _, _, _, _, _, _, _, _, o58, _⟩ := hR
      refine ⟨0, 0, by decide, by decide, ?_, ?_, ?_, r54, fun z => absurd z (by decide), ?_, ?_, ?_, ?_, fun i hi => absurd hi (Nat.not_lt_zero _), Or.inl ⟨r50, rfl, (g 0 11 (by decide)).trans j11⟩⟩
      · rw [g 0 7 (by decide), j7, r51]
      · rw [g 0 8 (by decide), j8, r52 f0]
      · rw [g 0 9 (by decide)]; exact j9
      · rw [g 3 8 (by decide), m2]; exact nI_lex (b := 16386) (by omega) (by decide) m1
      · rw [g 5 8 (by decide), j58]; exact o58
      · rw [q2]; exact nI_lex (b := 800) (by omega) (by decide) (by omega)
      · rw [g 0 10 (by decide)]; exact j10
    · exact absurd z f0
  · rcases RR with ⟨r0, r50, r51, r54, ⟨q, q1, q2⟩, _, r52⟩ | ⟨_, z, _⟩
    · refine ⟨0, 0, by decide, by decide, ?_, ?_, ?_, r54, fun z => absurd z (by decide), ?_, ?_, ?_, ?_, fun i hi => absurd hi (Nat.not_lt_zero _), Or.inl ⟨r50, rfl, (g 0 11 (by decide)).trans j11⟩⟩
      · rw [g 0 7 (by decide), j7, r51]
      · rw [g 0 8 (by decide), j8, r52 p0]
      · rw [g 0 9 (by decide)]; exact j9
      · rw [g 3 8 (by decide), m2]; exact nI_lex (b := 16386) (by omega) (by decide) m1
      · rw [g 5 8 (by decide), c2]; exact nI_lex (b := 418) (by omega) (by decide) c1
      · rw [q2]; exact nI_lex (b := 800) (by omega) (by decide) (by omega)
      · rw [g 0 10 (by decide)]; exact j10
    · exact absurd z f0
  · have cf : cj_f (pt_T t M n) = 0 := by
      unfold cj_f
      rw [p0, if_neg (fun z => z rfl), f0]; rfl
    rcases RR with ⟨r0, _⟩ | ⟨_, _, r50, r51, r52, r54, r35, r49, ⟨a, ra⟩, rb, rp⟩
    · exact absurd cf r0
    · have hlen := ju_len hN rc p0
      generalize (rl_go (tx_l (pt_T t M n))).2.2.2.2 = A at *
      generalize tx_l (pt_T t M n) = l at *
      refine ⟨l.length, A.1.length, hlen, jl, ?_, ?_, ?_, r54, fun _ => ?_, ?_, ?_, ?_, ?_, fun i hi => ?_, Or.inr ⟨by rw [r50]; decide, r35, ?_, ?_, fun b hb => ?_⟩⟩
      · rw [g 0 7 (by decide), j7, cf, r51]
      · rw [g 0 8 (by decide), j8, r52]
      · rw [g 0 9 (by decide)]; exact j9
      · rw [g 3 8 (by decide)]; exact j38
      · rw [g 3 8 (by decide), j38]; exact nI_lex (b := 16386) (by omega) (by decide) hlen
      · rw [g 5 8 (by decide), j58]; exact nI_lex (b := 418) (by omega) (by decide) (by omega)
      · rw [r35]; exact nI_lex (b := 800) (by omega) (by decide) (by omega)
      · rw [g 0 10 (by decide)]; exact j10
      · obtain ⟨s1, s2, s3, s4, s5, s6⟩ := ra i hi
        obtain ⟨u1, u2, u3, u4⟩ := jn i hi
        refine ⟨a i, s1, s2, ?_, ?_, ?_, ?_⟩
        · rw [G.2.2 19 (by decide), u1, s3]
        · rw [G.2.2 24 (by decide), u2, s4]
        · rw [G.2.2 25 (by decide), u3, s5]
        · rw [G.2.2 26 (by decide), u4, s6]
      · rw [g 0 11 (by decide), j11, r49]
      · rw [g 5 8 (by decide), j58, Nat.add_comm]
      · obtain ⟨y, hy⟩ := rl_blke hb
        rw [Nat.add_comm b 9]
        refine ⟨?_, ?_⟩
        · rw [G.2.2 29 (by decide), jb b y hy, rb b y hy]
        · rw [G.2.2 30 (by decide), jp b hb, rp b hb]
