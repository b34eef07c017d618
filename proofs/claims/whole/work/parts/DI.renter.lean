/-! A BLOCK begins in the reference: the whole of enterBlock -/
theorem lg_f1 {l : List pg_N} {NN i : Nat} (hG : lg_G l NN) (hi : i < l.length) (hk : rl_k l i = 1) : i + 1 < l.length ∧ i + 1 < i + rl_z l i ∧ rl_k l (i + 1) = 8 := by
  obtain ⟨z1, z2, z3⟩ := lg_cl hG hi
  have h := lg_S hG hi
  rw [hk] at h
  obtain ⟨u, b, e, h1, h2⟩ : ∃ u b, (rl_c l i).map (rl_k l) = 8 :: (u ++ [b]) ∧ (∀ x ∈ u, x = 4) ∧ sh_b b := h
  rw [rl_crow] at e
  obtain ⟨a1, a2, a3, a4, a5, a6, a7⟩ := rl_rwc z1 z3 e
  exact ⟨by omega, a1, a2⟩
def rl_u0 (l : List pg_N) (i : Nat) : Nat := if rl_k l i = 3 then 960 else if rl_k l i = 1 then 1 else 0
theorem re266 {d : Nat} {l : List pg_N} {a : Nat → Nat} {R : Int32 → Int32 → Prop} {σ0 σ : pm_S} {A : rl_A} {Q : Option Value → pm_S → Prop} {NN u0 i : Nat} (hG : lg_G l NN) (h : rr_I l a R σ0 σ false u0 A) (hp : pv_B A.1) (hB : A.1.length < 409) (hn : rl_k l i = 1 → (rv_L A.1).length < 4096) (i0 : i < l.length) (hk : 1 ≤ rl_k l i ∧ rl_k l i ≤ 3) (hQ : ∀ σ', rr_F σ0 σ' → ((rl_in l A i).1 = 0 → rr_I l a R σ0 σ' true (rl_u0 l i) (rl_in l A i).2) → Q (some (.int (nI (rl_in l A i).1))) σ') : pm_call pm_Y0 (d + 3) 266 [.ref 10, .int (nI (a i))] σ Q := by
  have nk : rp_nk (rl_k l i) = true := by
    rcases (show rl_k l i = 1 ∨ rl_k l i = 2 ∨ rl_k l i = 3 by omega) with w | w | w <;> rw [w] <;> rfl
  have ei : rl_in l A i = (if A.1 ≠ [] ∧ (rl_cur A).1 = 3 then (10, A) else if rl_taken A (rl_v l i) = true then (11, A) else (0, ((rl_k l i, rl_v l i, i, if rl_k l i = 3 then 960 else if rl_k l i = 1 then 1 else 0, if rl_k l i = 1 then [(rl_v l i, 0, rl_v l (i + 1), 0, -1, 0)] else []) :: A.1, A.2))) := by
    unfold rl_in
    dsimp only
    rw [if_pos hk]
  rw [ei] at hQ
  refine re266h h hp (fun z1 z2 => ?_) (fun z => ?_)
  · rw [if_pos ⟨z1, z2⟩] at hQ
    exact hQ σ h.2.2.1 (fun z => absurd z (Nat.succ_ne_zero _))
  · rw [if_neg z] at hQ
    refine re266n h hp i0 nk (fun z1 => ?_) (fun z1 => ?_)
    · rw [if_pos z1] at hQ
      exact hQ σ h.2.2.1 (fun z => absurd z (Nat.succ_ne_zero _))
    · rw [if_neg (by rw [z1]; decide)] at hQ
      by_cases k1 : rl_k l i = 1
      · obtain ⟨f1, f2, f3⟩ := lg_f1 hG i0 k1
        refine re266f hG h hB (hn k1) f1 f2 k1 (by rw [f3]; rfl) (rt_R (rr_T h) i0 nk) (fun σ' hF hI => hQ σ' hF (fun _ => ?_))
        unfold rl_u0
        rw [if_neg (by omega), if_pos k1, if_pos k1]
        exact hI
      · refine re266t h hB i0 (by omega) (fun σ' hF hI => hQ σ' hF (fun _ => ?_))
        unfold rl_u0
        rw [if_neg k1, if_neg k1]
        exact hI
