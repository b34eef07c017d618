/-! A BLOCK begins, in the reference -/
theorem rr_push {l : List pg_N} {a : Nat → Nat} {R : Int32 → Int32 → Prop} {σ0 σ σ' : pm_S} {u0 u k i c : Nat} {x : Int32} {A : rl_A} (h : rr_I l a R σ0 σ false u0 A) (i0 : i < l.length) (hk : rl_k l i = k) (hv : rl_v l i = x) (hB : A.1.length < 409) (hF : rr_F σ0 σ') (eD : ∀ k, 56 ≤ k → k ≤ 58 → σ'.2.2 k = σ.2.2 k) (e64 : σ'.2.2 64 = upd (σ.2.2 64) A.1.length (nI (a i))) (e65 : σ'.2.2 65 = upd (σ.2.2 65) A.1.length (nI (rv_L A.1).length)) (e66 : σ'.2.2 66 = upd (σ.2.2 66) A.1.length (nI (rv_L A.1).length)) (e67 : σ'.2.2 67 = σ.2.2 67) (e35 : σ'.1 10 35 = nI (A.1.length + 1)) (e41 : σ'.1 10 41 = σ.1 10 41) (ev : ∀ k, 69 ≤ k → k ≤ 74 → σ'.2.2 k = σ.2.2 k) (e48 : σ'.1 10 48 = nI u) : rr_I l a R σ0 σ' true u ((k, x, i, c, []) :: A.1, A.2) := by
  obtain ⟨h0, h1, h2, hD, hb, hv', h6⟩ := h
  have eL : rv_L ((k, x, i, c, []) :: A.1) = rv_L A.1 := by
    show rv_L A.1 ++ [].reverse = _
    rw [List.reverse_nil, List.append_nil]
  refine ⟨h0, h1, hF, fun j hj => ?_, ?_, ?_, fun _ => e48⟩
  · obtain ⟨d1, d2, d3⟩ := hD j hj
    rw [eD 56 (by omega) (by omega), eD 57 (by omega) (by omega), eD 58 (by omega) (by omega)]
    exact ⟨d1, fun _ => d2 (fun z => absurd z.1 (by decide)), fun _ => d3 (fun z => absurd z.1 (by decide))⟩
  · obtain ⟨b1, b2, b3⟩ := hb
    refine ⟨hB, e35, fun b z hz => ?_⟩
    rw [rl_blkc] at hz
    by_cases q : b = A.1.length
    · rw [if_pos q] at hz
      cases hz
      refine ⟨i0, hk, hv, ?_⟩
      have f0 : rv_fr ((k, x, i, c, []) :: A.1) b = (rv_L A.1).length := by
        unfold rv_fr
        rw [List.length_cons, q, show A.1.length + 1 - A.1.length = 1 by omega]; rfl
      unfold rb_at
      rw [e64, e65, e66, f0, upd_if, upd_if, upd_if, if_pos q, if_pos q, if_pos q]
      refine ⟨rfl, rfl, rfl, fun z => ?_⟩
      rcases z with z | z
      · cases z
      · rw [List.length_cons] at z; omega
    · rw [if_neg q] at hz
      have hl := rl_blkl hz
      obtain ⟨g1, g2, g3, g4⟩ := b3 b z hz
      refine ⟨g1, g2, g3, ?_⟩
      have fE : rv_fr ((k, x, i, c, []) :: A.1) b = rv_fr A.1 b := by
        unfold rv_fr
        rw [List.length_cons, show A.1.length + 1 - b = (A.1.length - b) + 1 by omega, List.drop_succ_cons]
      unfold rb_at at g4 ⊢
      rw [e64, e65, e66, e67, fE, upd_if, upd_if, upd_if, if_neg q, if_neg q, if_neg q]
      exact ⟨g4.1, g4.2.1, g4.2.2.1, fun _ => g4.2.2.2 (Or.inl rfl)⟩
  · show rv_I R (rv_L ((k, x, i, c, []) :: A.1)) σ'
    rw [eL]
    exact rv_x hv' (fun q q1 q2 => ev q q1 q2) e41
