/-! THE FIRST FAULT, in the class -/
theorem sp21 {d : Nat} {σ : pm_S} {Q : Option Value → pm_S → Prop} (hQ : Q (some (.int (σ.1 1 4))) σ) : pm_call pm_Y0 (d + 1) 21 [.ref 1] σ Q := by
  refine wq_m m21 (Nat.le_of_ble_eq_true rfl) (by decide) rfl ?_
  refine wq_l 1 d21_0 rfl rfl rfl rfl ?_
  refine wq_gi (ci := 1) (j := 4) 4 d21_1 rfl rfl rfl rfl ?_
  refine wq_ri d21_4 (rfl) ?_
  exact hQ
theorem cr141 {d : Nat} {σ : pm_S} {Q : Option Value → pm_S → Prop} {l : List pg_N} {NN : Nat} {I : rl_W → Prop} (hG : lg_G l NN) (hN : NN ≤ 4171) (hN75 : 75 ≤ NN) (h0r : rl_k l 0 = 0) (hW : pi_W l I) (hI0 : I (none, 0, rl_A0)) (hol : ∀ A i, (rl_out l A i).1 < 2 ^ 20) (hz : ct_Z l σ) (hD : ∀ i, i < l.length → σ.2.2 24 i = -1 ∧ σ.2.2 25 i = -1 ∧ σ.2.2 26 i = -1) (hn : σ.1 1 4 = nI NN) (hQ : ∀ σ', cr_X l σ σ' (rl_go l) → Q (some (.int (nI (rl_go l).1))) σ') : pm_call pm_Y0 (d + 8) 141 [.ref 7] σ Q := by
  refine wq_m m141 (Nat.le_of_ble_eq_true rfl) (by decide) rfl ?_
  refine wq_l 1 d141_0 rfl rfl rfl rfl ?_
  refine wq_gr (ci := 7) (j := 2) (q := 5) 4 d141_1 rfl rfl rfl rfl ?_
  refine wq_l 5 d141_4 rfl rfl rfl rfl ?_
  refine wq_gr (ci := 7) (j := 1) (q := 1) 8 d141_5 rfl rfl rfl rfl ?_
  refine wq_v 11 [] d141_8 rfl rfl m21 rfl rfl (Nat.le_of_ble_eq_true rfl) rfl (sp21 ?_)
  rw [hn]
  refine wq_v 14 [_] d141_11 rfl rfl m111 rfl rfl (Nat.le_of_ble_eq_true rfl) rfl (cb111 (l := l) hN hN75 (fun τ1 b1 v1 f1 f2 f3 => ?_))
  refine wq_l 15 d141_14 rfl rfl rfl rfl ?_
  refine wq_gr (ci := 7) (j := 6) (q := 42) 18 d141_15 rfl rfl rfl rfl ?_
  refine wq_k 19 0 d141_18 (by decide) rfl ?_
  refine wq_vs 22 [_, _] d141_19 rfl rfl m322 rfl (Nat.le_of_ble_eq_true rfl) rfl (sp322 (k := 42) (M := 960) rfl (by decide) ?_)
  refine wq_k 23 (-1) d141_22 (by decide) rfl ?_
  refine wq_s 24 d141_23 rfl rfl (Nat.le_of_ble_eq_true rfl) rfl rfl ?_
  refine wq_k 25 0 d141_24 (by decide) rfl ?_
  refine wq_s 26 d141_25 rfl rfl (Nat.le_of_ble_eq_true rfl) rfl rfl ?_
  refine wq_k 27 0 d141_26 (by decide) rfl ?_
  refine wq_s 28 d141_27 rfl rfl (Nat.le_of_ble_eq_true rfl) rfl rfl ?_
  refine cr141l hG h0r hW hz hol (2 * l.length) 0 none 0 rl_A0 _ _ _ (by omega) rfl (Or.inr ⟨hI0, hN, hz, ?_, ?_, ?_, ?_, ?_⟩) (fun z => ?_) hQ
  · refine cc_pr ⟨fun a b => ?_, f2, fun k => ?_⟩ (by decide)
    · rcases f1 a b with w | w | w
      · exact Or.inl w
      · exact Or.inr (Or.inl w)
      · exact Or.inr (Or.inr (Or.inr w))
    · rcases f3 k with w | w
      · left; omega
      · exact Or.inr w
  · intro i hi
    have g : ∀ k, 23 ≤ k → k ≤ 26 → (pm_pr τ1 42 (fun i => if i < 960 then (0 : Int32) else τ1.2.2 42 i)).2.2 k = σ.2.2 k := fun k h1 h2 => by
      rw [pm_rne (by omega)]; exact (f3 k).resolve_left (by omega)
    refine ⟨fun z => absurd z (Nat.not_lt_zero _), ?_, ?_, ?_⟩
    · rw [g 24 (by decide) (by decide)]; exact (hD i hi).1
    · rw [g 25 (by decide) (by decide)]; exact (hD i hi).2.1
    · rw [g 26 (by decide) (by decide)]; exact (hD i hi).2.2
  · exact cb_x b1 (fun q _ _ => pm_rne (by omega)) rfl rfl
  · exact cv_x v1 (fun q _ _ => pm_rne (by omega)) rfl
  · intro c hc
    rw [pm_req, if_pos hc]
    refine ⟨Or.inl rfl, ⟨fun z => absurd z (by decide), ?_⟩⟩
    rintro ⟨v, m1, _⟩
    exact absurd m1 List.not_mem_nil
  · exfalso
    have := hG.2.2.1
    omega
