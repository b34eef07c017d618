/-! THE REFERENCE'S PARSER: tokens -/
/-- the tokens of a text -/
def pt_T (t : Nat → Nat) (M n : Nat) : pg_T := (fun j => if j < n then lx_k t M lx_ns j else 44, lx_p t M lx_ns, lx_v t M lx_ns)
/-- n tokens there are -/
def pt_n (t : Nat → Nat) (M n : Nat) : Prop := lx_b t M (n - 1) ∧ 1 ≤ n ∧ n ≤ M + 1 ∧ (lx_k t M lx_ns (n - 1) = 45 ∨ lx_k t M lx_ns (n - 1) = 44)
def rf_f (T : pg_T) (c : pg_C) : Int32 := if T.1 c.1 = 45 then nI (T.2.2 c.1) else if c.2.1 = 2 then 7 else 6
def rf_T (σ : pm_S) (t : Nat → Nat) (M n : Nat) (c : pg_C) : Prop :=
  rx_T σ t M ∧ c.1 < n ∧
  (pg_live (pt_T t M n) c → σ.1 10 6 = 0 ∧ σ.1 10 2 = nI (lx_at t M lx_ns (c.1 + 1)).1 ∧ σ.1 10 3 = rx_c (lx_k t M lx_ns c.1) ∧ σ.1 10 4 = nI (lx_p t M lx_ns c.1) ∧ σ.1 10 5 = nI (rq_v t M c.1) ∧ rx_N σ t M (rq_ps t M (c.1 + 1)) ∧ σ.1 10 8 = nI c.2.2 ∧ c.2.2 ≤ 60) ∧
  (pg_dead (pt_T t M n) c → σ.1 10 6 = rf_f (pt_T t M n) c ∧ ¬ σ.1 10 6 = 0 ∧ σ.1 10 7 = nI (lx_p t M lx_ns c.1))
theorem lx_bad {t : Nat → Nat} {M : Nat} {s : Nat × List (List Nat)} (h : (lx_nx t M s).2.1.1 = 45) : 1 ≤ (lx_nx t M s).2.1.2.1 ∧ (lx_nx t M s).2.1.2.1 ≤ 5 := by
  cases hk : (lx_sk t M s.1).2 with
  | false => rw [lx_nx_no hk]; exact ⟨by show 1 ≤ 2; omega, by show 2 ≤ 5; omega⟩
  | true =>
    rw [lx_nx_ok hk] at h ⊢
    generalize (lx_sk t M s.1).1 = q at h ⊢
    generalize s.2 = ns at h ⊢
    have h : (lx_tok t M q ns).1.1 = 45 := h
    show 1 ≤ (lx_tok t M q ns).1.2.1 ∧ (lx_tok t M q ns).1.2.1 ≤ 5
    unfold lx_tok at h ⊢
    by_cases h1 : M ≤ q
    · rw [if_pos h1] at h; exact absurd h (by decide : ¬ (44 : Nat) = 45)
    rw [if_neg h1] at h ⊢
    have fin : ∀ e v, (lx_fin t M e v).1 = 45 → (lx_fin t M e v).2.1 = 4 := fun e v h => by
      unfold lx_fin at h ⊢
      by_cases y : lx_np (lx_i t M e) = true ∨ 2147483647 < v
      · rw [if_pos y]
      · rw [if_neg y] at h; exact absurd h (by decide : ¬ (42 : Nat) = 45)
    by_cases h2 : (t q = 84 ∨ t q = 116) ∧ lx_i t M (q + 1) = 35
    · rw [if_pos h2] at h ⊢
      have h : (lx_tim t M q).1 = 45 := h
      have e : (lx_tim t M q).2.1 = 4 := by
        unfold lx_tim at h ⊢
        by_cases y : lx_de t M 10 (q + 2) = q + 2 ∨ (lx_unit t M (lx_de t M 10 (q + 2))).1 = 0
        · rw [if_pos y]
        · rw [if_neg y] at h ⊢; exact fin _ _ h
      show 1 ≤ (lx_tim t M q).2.1 ∧ _
      rw [e]; decide
    rw [if_neg h2] at h ⊢
    by_cases h3 : lx_dg (t q) = true
    · rw [if_pos h3] at h ⊢
      have h : (lx_num t M q).1 = 45 := h
      have e : (lx_num t M q).2.1 = 4 := by
        unfold lx_num at h ⊢
        by_cases y : lx_i t M (lx_de t M 10 q) = 35
        · rw [if_pos y] at h ⊢
          by_cases y2 : (lx_dv t M 10 q 0 = 16 ∨ lx_dv t M 10 q 0 = 2) ∧ lx_de t M (lx_dv t M 10 q 0) (lx_de t M 10 q + 1) ≠ lx_de t M 10 q + 1
          · rw [if_pos y2] at h ⊢; exact fin _ _ h
          · rw [if_neg y2]
        · rw [if_neg y] at h ⊢; exact fin _ _ h
      show 1 ≤ (lx_num t M q).2.1 ∧ _
      rw [e]; decide
    rw [if_neg h3] at h ⊢
    by_cases h4 : lx_np (t q) = true
    · rw [if_pos h4] at h ⊢
      unfold lx_nam at h ⊢
      by_cases y : 32 < lx_ne t M q - q
      · rw [if_pos y]; exact ⟨by show 1 ≤ 3; omega, by show 3 ≤ 5; omega⟩
      · rw [if_neg y] at h
        by_cases y2 : nt_w t q (lx_ne t M q) ∈ ns
        · rw [if_pos y2] at h; have h : min _ 41 = 45 := h; omega
        · rw [if_neg y2] at h; have h : min _ 41 = 45 := h; omega
    rw [if_neg h4] at h ⊢
    by_cases h5 : t q = 37
    · rw [if_pos h5] at h ⊢
      by_cases y : (lx_pla t M q).2.1 = 5
      · show 1 ≤ (lx_pla t M q).2.1 ∧ _; rw [y]; decide
      · exfalso
        have h : (lx_pla t M q).1 = 45 := h
        unfold lx_pla at h y
        by_cases w : lx_area (lx_gi t M (q + 1)) ≠ 9 ∧ (lx_gi t M (q + 2) = 88 ∨ lx_gi t M (q + 2) = 87) ∧ lx_de t M 10 (q + 3) ≠ q + 3 ∧ lx_dv t M 10 (q + 3) 0 ≤ (if lx_gi t M (q + 2) = 88 then 255 else 63) ∧ lx_np (lx_i t M (lx_de t M 10 (q + 3))) = false
        · rw [if_pos w] at h; exact absurd h (by decide : ¬ (43 : Nat) = 45)
        · rw [if_neg w] at y; exact y rfl
    · rw [if_neg h5] at h ⊢
      have h : (lx_sgn t M q).1 = 45 := h
      show 1 ≤ (lx_sgn t M q).2.1 ∧ (lx_sgn t M q).2.1 ≤ 5
      unfold lx_sgn at h ⊢
      by_cases y : lx_two (lx_i t M q) (lx_i t M (q + 1)) ≠ -1
      · rw [if_pos y] at h
        have h : (lx_two (lx_i t M q) (lx_i t M (q + 1))).toNatClampNeg = 45 := h
        rcases lx_two_n (lx_i t M q) (lx_i t M (q + 1)) with z | z
        · exact absurd z y
        · omega
      · rw [if_neg y] at h ⊢
        by_cases y2 : t q ∈ lx_sgs
        · rw [if_pos y2] at h; have h : 52 + lx_sgs.idxOf (t q) = 45 := h; omega
        · rw [if_neg y2]; exact ⟨by show 1 ≤ 1; omega, by show 1 ≤ 5; omega⟩
/-- a token on -/
theorem rf_go {d : Nat} {σ : pm_S} {Q : Option Value → pm_S → Prop} {t : Nat → Nat} {M n : Nat} {c : pg_C} (hn : pt_n t M n) (hR : rf_T σ t M n c) (hl : pg_live (pt_T t M n) c) (h44 : lx_k t M lx_ns c.1 ≠ 44) (hQ : ∀ σ', rq_F σ σ' → rf_T σ' t M n (c.1 + 1, c.2.1, c.2.2) → Q none σ') : pm_call pm_Y0 (d + 6) 203 [.ref 10] σ Q := by
  obtain ⟨hT, hc, hL, hD⟩ := hR
  obtain ⟨l1, l2, l3, l4, l5, l6, l7, l8⟩ := hL hl
  obtain ⟨n1, n2, n3, n4⟩ := hn
  have hk : (pt_T t M n).1 c.1 = lx_k t M lx_ns c.1 := if_pos hc
  have h45 : lx_k t M lx_ns c.1 ≠ 45 := fun z => hl.2 (hk.trans z)
  have hc1 : c.1 + 1 < n := by
    rcases Nat.lt_or_ge (c.1 + 1) n with z | z
    · exact z
    · have : c.1 = n - 1 := by omega
      rw [this] at h44 h45
      omega
  have hb : lx_b t M (c.1 + 1) := fun i hi => n1 i (by omega)
  have hk1 : (pt_T t M n).1 (c.1 + 1) = lx_k t M lx_ns (c.1 + 1) := if_pos hc1
  refine sp203 hT hb l2 l1 l6 (fun σ' hF hA => hQ σ' hF ⟨?_, hc1, fun z => ?_, fun z => ?_⟩)
  · obtain ⟨x1, x2, x3, x4⟩ := hT
    have e1 : σ'.1 10 1 = σ.1 10 1 := (hF.1 10 1).resolve_left (by omega)
    have e2 : σ'.2.2 43 = σ.2.2 43 := (hF.2.2 43).resolve_left (by omega)
    exact ⟨e1.trans x1, x2, fun i => by rw [e2]; exact x3 i, x4⟩
  · have z2 : lx_k t M lx_ns (c.1 + 1) ≠ 45 := fun y => z.2 (hk1.trans y)
    obtain ⟨a1, a2, a3, a4, a5, a6⟩ := hA.2 z2
    have e8 : σ'.1 10 8 = σ.1 10 8 := (hF.1 10 8).resolve_left (by omega)
    exact ⟨a1, a2, a3, a4, a5, a6, e8.trans l7, l8⟩
  · have z2 : lx_k t M lx_ns (c.1 + 1) = 45 := by
      rcases z with y | y
      · exact absurd hl.1 y
      · exact hk1.symm.trans y
    obtain ⟨a1, a2⟩ := hA.1 z2
    have hv := lx_bad (t := t) (M := M) (s := lx_at t M lx_ns (c.1 + 1)) z2
    have hv : 1 ≤ lx_v t M lx_ns (c.1 + 1) ∧ lx_v t M lx_ns (c.1 + 1) ≤ 5 := hv
    refine ⟨?_, ?_, a2⟩
    · rw [a1]
      unfold rf_f
      rw [if_pos (hk1.trans z2)]
      rfl
    · rw [a1]
      intro y
      have := (nI_eq (by omega) (by decide : (0 : Nat) < 2 ^ 31)).mp (y : nI _ = nI 0)
      omega
