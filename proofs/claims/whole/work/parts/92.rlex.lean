/-! a NAME's token -/
theorem lx_nx_ok {t : Nat → Nat} {M : Nat} {s : Nat × List (List Nat)} (h : (lx_sk t M s.1).2 = true) : lx_nx t M s = ((lx_sk t M s.1).1, lx_tok t M (lx_sk t M s.1).1 s.2) := if_pos h
theorem lx_nx_no {t : Nat → Nat} {M : Nat} {s : Nat × List (List Nat)} (h : (lx_sk t M s.1).2 = false) : lx_nx t M s = ((lx_sk t M s.1).1, (45, 2, (lx_sk t M s.1).1), s.2) := if_neg (by rw [h]; decide)
theorem lx_tok_41 {t : Nat → Nat} {M q : Nat} {ns : List (List Nat)} (h : (lx_tok t M q ns).1.1 ≤ 41) : q < M ∧ lx_np (t q) = true ∧ lx_tok t M q ns = lx_nam t M q ns := by
  unfold lx_tok at h ⊢
  by_cases h1 : M ≤ q
  · rw [if_pos h1] at h; exact absurd h (by decide : ¬ (44 : Nat) ≤ 41)
  rw [if_neg h1] at h ⊢
  by_cases h2 : (t q = 84 ∨ t q = 116) ∧ lx_i t M (q + 1) = 35
  · rw [if_pos h2] at h
    have hq := lx_i_in (t := t) (M := M) (p := q + 1) (by rw [h2.2]; decide)
    have h : (lx_tim t M q).1 ≤ 41 := h
    obtain ⟨v, e, g1, _⟩ := lx_tim_e hq (show (lx_tim t M q).1 ≠ 45 by omega)
    rw [g1] at h
    exact absurd h (by show ¬ 42 ≤ 41; omega)
  rw [if_neg h2] at h ⊢
  by_cases h3 : lx_dg (t q) = true
  · rw [if_pos h3] at h
    have h : (lx_num t M q).1 ≤ 41 := h
    obtain ⟨v, e, g1, _⟩ := lx_num_e (by omega) h3 (show (lx_num t M q).1 ≠ 45 by omega)
    rw [g1] at h
    exact absurd h (by show ¬ 42 ≤ 41; omega)
  rw [if_neg h3] at h ⊢
  by_cases h4 : lx_np (t q) = true
  · rw [if_pos h4]; exact ⟨by omega, h4, rfl⟩
  rw [if_neg h4] at h
  by_cases h5 : t q = 37
  · rw [if_pos h5] at h
    have h : (lx_pla t M q).1 ≤ 41 := h
    obtain ⟨v, e, g1, _⟩ := lx_pla_e (show (lx_pla t M q).1 ≠ 45 by omega)
    rw [g1] at h
    exact absurd h (by show ¬ 43 ≤ 41; omega)
  · rw [if_neg h5] at h
    have h : (lx_sgn t M q).1 ≤ 41 := h
    obtain ⟨k, e, g1, g2, _⟩ := lx_sgn_e (by omega) (show (lx_sgn t M q).1 ≠ 45 by omega)
    rw [g1] at h
    have h : k ≤ 41 := h
    omega
theorem rq_41 {t : Nat → Nat} {M j : Nat} (hM : M ≤ 8192) (hb : lx_b t M j) (h : lx_k t M lx_ns j ≤ 41) : (lx_at t M lx_ns j).1 ≤ lx_p t M lx_ns j ∧ lx_p t M lx_ns j < M ∧ lx_np (t (lx_p t M lx_ns j)) = true ∧ (lx_at t M lx_ns (j + 1)).1 = lx_ne t M (lx_p t M lx_ns j) ∧ lx_nx t M (lx_at t M lx_ns j) = (lx_p t M lx_ns j, lx_nam t M (lx_p t M lx_ns j) (lx_at t M lx_ns j).2) := by
  obtain ⟨j1, j2, j3⟩ := lx_at_J hM j hb
  have sb := lx_sk_b (t := t) (M := M) (M + 1 - (lx_at t M lx_ns j).1) (lx_at t M lx_ns j).1 j3
  have sb1 : (lx_at t M lx_ns j).1 ≤ (lx_sk t M (lx_at t M lx_ns j).1).1 := sb.1
  cases hk : (lx_sk t M (lx_at t M lx_ns j).1).2 with
  | false =>
    unfold lx_k at h
    rw [lx_nx_no hk] at h
    exact absurd h (by decide : ¬ (45 : Nat) ≤ 41)
  | true =>
    have e1 := lx_nx_ok hk
    have hp : lx_p t M lx_ns j = (lx_sk t M (lx_at t M lx_ns j).1).1 := by unfold lx_p; rw [e1]
    unfold lx_k at h
    rw [e1] at h
    obtain ⟨g1, g2, g3⟩ := lx_tok_41 h
    rw [g3] at e1
    have hJ := lx_J_sk j1 sb1
    rw [hp]
    refine ⟨sb1, g1, g2, ?_, e1⟩
    show (lx_nx t M (lx_at t M lx_ns j)).2.1.2.2 = _
    rw [e1]
    have h45 : (lx_nam t M (lx_sk t M (lx_at t M lx_ns j).1).1 (lx_at t M lx_ns j).2).1.1 ≠ 45 := by
      rw [g3] at h
      have h : (lx_nam t M (lx_sk t M (lx_at t M lx_ns j).1).1 (lx_at t M lx_ns j).2).1.1 ≤ 41 := h
      omega
    obtain ⟨v, q1, _⟩ := lx_nam_e g1 hM g2 hJ h45
    show (lx_nam t M (lx_sk t M (lx_at t M lx_ns j).1).1 (lx_at t M lx_ns j).2).1.2.2 = _
    rw [q1]
theorem rq_J {t : Nat → Nat} {M : Nat} (hM : M ≤ 8192) : ∀ j, lx_b t M j → 2 * (rq_ps t M j).length ≤ (lx_at t M lx_ns j).1 + 1 ∧ (lx_np (lx_i t M (lx_at t M lx_ns j).1) = true → 2 * (rq_ps t M j).length ≤ (lx_at t M lx_ns j).1)
  | 0, _ => ⟨Nat.zero_le _, fun _ => Nat.zero_le _⟩
  | j + 1, hb => by
    have hbj : lx_b t M j := fun i hi => hb i (by omega)
    obtain ⟨i1, i2⟩ := rq_J hM j hbj
    obtain ⟨j1, j2, j3⟩ := lx_at_J hM j hbj
    obtain ⟨b1, b2⟩ := hb j (by omega)
    have e := lx_nx_e (t := t) (ns := (lx_at t M lx_ns j).2) hM j3 j1 b1 b2
    have e1 : (lx_at t M lx_ns j).1 < (lx_at t M lx_ns (j + 1)).1 := e.1
    unfold rq_ps
    by_cases h : lx_k t M lx_ns j = 41 ∧ rq_h t (rq_ps t M j) (rq_w t M j) = false
    · rw [if_pos h, List.length_append, List.length_singleton]
      obtain ⟨g1, g2, g3, g4, _⟩ := rq_41 hM hbj (by omega)
      have hend := lx_ne_end (t := t) (M := M) _ (lx_p t M lx_ns j) rfl
      have hlt : lx_p t M lx_ns j < lx_ne t M (lx_p t M lx_ns j) := by rw [lx_ne_u, if_pos ⟨g2, g3⟩]; exact lx_neB.1
      have h2 : 2 * (rq_ps t M j).length ≤ lx_p t M lx_ns j := by
        rcases Nat.eq_or_lt_of_le g1 with z | z
        · rw [← z]
          refine i2 ?_
          rw [z, show lx_i t M (lx_p t M lx_ns j) = (t (lx_p t M lx_ns j) : Int) from if_pos g2]
          exact g3
        · omega
      rw [g4, hend]
      exact ⟨by omega, fun z => absurd z (by decide)⟩
    · rw [if_neg h]
      exact ⟨by omega, fun _ => by omega⟩
theorem rq_wdj {t : Nat → Nat} {M j : Nat} (hM : M ≤ 8192) (hb : lx_b t M j) (h : lx_k t M lx_ns j = 41) : rx_wd t (lx_p t M lx_ns j, (lx_at t M lx_ns (j + 1)).1 - lx_p t M lx_ns j) = rq_w t M j := by
  obtain ⟨g1, g2, g3, g4, _⟩ := rq_41 hM hb (by omega)
  have hlt : lx_p t M lx_ns j ≤ lx_ne t M (lx_p t M lx_ns j) := lx_neB.1
  unfold rx_wd rq_w
  rw [g4, show lx_p t M lx_ns j + (lx_ne t M (lx_p t M lx_ns j) - lx_p t M lx_ns j) = lx_ne t M (lx_p t M lx_ns j) by omega]
theorem rq_Db {t : Nat → Nat} {M : Nat} (hM : M ≤ 8192) : ∀ j, lx_b t M j → rq_D t (rq_ps t M j)
  | 0, _ => fun i j p q h => by simp [rq_ps] at h
  | j + 1, hb => by
    have hbj : lx_b t M j := fun i hi => hb i (by omega)
    unfold rq_ps
    by_cases h : lx_k t M lx_ns j = 41 ∧ rq_h t (rq_ps t M j) (rq_w t M j) = false
    · rw [if_pos h]
      refine rq_Da (rq_Db hM j hbj) (fun q hq => ?_)
      rw [rq_wdj hM hbj h.1]
      exact rq_hf.mp h.2 q hq
    · rw [if_neg h]; exact rq_Db hM j hbj
/-- which word -/
theorem rx_nmw {t : Nat → Nat} {M p v : Nat} {ns : List (List Nat)} (hJ : lx_J t M p ns) (h : ns[v]? = some (nt_w t p (lx_ne t M p))) (hv : v < 41) : nt_w t p (lx_ne t M p) = rx_W v := by
  obtain ⟨rest, hr⟩ := hJ.2.2.2.2
  have hr : lx_ns ++ rest = ns := hr
  have hl : lx_ns.length = 75 := nl_N_len.1
  rw [← hr, List.getElem?_append_left (by omega)] at h
  have h2 : (lx_ns.take 41)[v]? = some (nt_w t p (lx_ne t M p)) := by rw [List.getElem?_take_of_lt hv]; exact h
  rw [rx_ws_e] at h2
  unfold rx_W
  rw [List.getD_eq_getElem?_getD, h2]
  rfl
theorem rx_nmn {t : Nat → Nat} {M p w : Nat} {ns : List (List Nat)} (hJ : lx_J t M p ns) (hw : w < 41) : ns[w]? = some (rx_W w) := by
  obtain ⟨rest, hr⟩ := hJ.2.2.2.2
  have hr : lx_ns ++ rest = ns := hr
  have hl : lx_ns.length = 75 := nl_N_len.1
  have h1 : (lx_ns.take 41)[w]? = lx_ns[w]? := List.getElem?_take_of_lt hw
  rw [← hr, List.getElem?_append_left (by omega), ← h1, rx_ws_e]
  unfold rx_W
  have : w < rx_ws.length := hw
  rw [List.getD_eq_getElem?_getD, List.getElem?_eq_getElem this]
  rfl
