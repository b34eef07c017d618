/-! HOW MANY BYTES: a name takes two, a block twenty -/
section LXB
variable {t : Nat → Nat} {M : Nat}
theorem lx_wd1 {j : Nat} (hM : M ≤ 8192) (hb : lx_b t M j) (hk : lx_k t M lx_ns j ≤ 41) : (lx_at t M lx_ns j).1 ≤ lx_p t M lx_ns j ∧ lx_p t M lx_ns j < (lx_at t M lx_ns (j + 1)).1 ∧ (lx_at t M lx_ns (j + 1)).1 ≤ M ∧ lx_p t M lx_ns j < M ∧ lx_np (t (lx_p t M lx_ns j)) = true ∧ lx_np (lx_i t M (lx_at t M lx_ns (j + 1)).1) = false ∧ ∃ v, lx_k t M lx_ns j = min v 41 ∧ lx_v t M lx_ns j = v ∧ (lx_at t M lx_ns (j + 1)).2[v]? = some (nt_w t (lx_p t M lx_ns j) (lx_at t M lx_ns (j + 1)).1) := by
  obtain ⟨J1, J2, J3⟩ := lx_at_J hM j hb
  have sb := lx_sk_b (t := t) (M := M) (M + 1 - (lx_at t M lx_ns j).1) (lx_at t M lx_ns j).1 J3
  have sb1 : (lx_at t M lx_ns j).1 ≤ (lx_sk t M (lx_at t M lx_ns j).1).1 := sb.1
  have sb2 : (lx_sk t M (lx_at t M lx_ns j).1).1 ≤ M := sb.2
  cases hs : (lx_sk t M (lx_at t M lx_ns j).1).2 with
  | false =>
    exfalso
    unfold lx_k at hk
    rw [lx_nx_no hs] at hk
    exact absurd hk (by show ¬ 45 ≤ 41; omega)
  | true =>
    have e := lx_nx_ok hs
    have ek : lx_k t M lx_ns j = (lx_tok t M (lx_sk t M (lx_at t M lx_ns j).1).1 (lx_at t M lx_ns j).2).1.1 := by unfold lx_k; rw [e]
    have ep : lx_p t M lx_ns j = (lx_sk t M (lx_at t M lx_ns j).1).1 := by unfold lx_p; rw [e]
    have ev : lx_v t M lx_ns j = (lx_tok t M (lx_sk t M (lx_at t M lx_ns j).1).1 (lx_at t M lx_ns j).2).1.2.1 := by unfold lx_v; rw [e]
    have ea : lx_at t M lx_ns (j + 1) = ((lx_tok t M (lx_sk t M (lx_at t M lx_ns j).1).1 (lx_at t M lx_ns j).2).1.2.2, (lx_tok t M (lx_sk t M (lx_at t M lx_ns j).1).1 (lx_at t M lx_ns j).2).2) := by
      show ((lx_nx t M (lx_at t M lx_ns j)).2.1.2.2, (lx_nx t M (lx_at t M lx_ns j)).2.2) = _
      rw [e]
    rw [ek] at hk ⊢
    rw [ep, ev, ea]
    generalize (lx_sk t M (lx_at t M lx_ns j).1).1 = q at *
    obtain ⟨g1, g2, g3⟩ := lx_tok_41 hk
    rw [g3] at hk ⊢
    obtain ⟨v, v1, v2, v3, v4, v5, v6, v7⟩ := lx_nam_e g1 hM g2 (lx_J_sk J1 sb1) (by omega)
    rw [v1]
    exact ⟨sb1, v4, v5, g1, g2, lx_ne_end (t := t) (M := M) _ q rfl, v, rfl, rfl, v7⟩
theorem lx_st {j : Nat} (hM : M ≤ 8192) (hb : lx_b t M (j + 1)) : (lx_at t M lx_ns j).1 ≤ lx_p t M lx_ns j ∧ (lx_at t M lx_ns j).1 < (lx_at t M lx_ns (j + 1)).1 ∧ (lx_at t M lx_ns (j + 1)).1 ≤ M := by
  obtain ⟨J1, J2, J3⟩ := lx_at_J hM j (fun i hi => hb i (by omega))
  have sb := lx_sk_b (t := t) (M := M) (M + 1 - (lx_at t M lx_ns j).1) (lx_at t M lx_ns j).1 J3
  have sb1 : (lx_at t M lx_ns j).1 ≤ (lx_sk t M (lx_at t M lx_ns j).1).1 := sb.1
  obtain ⟨g1, g2⟩ := hb j (by omega)
  obtain ⟨x1, x2, _⟩ := lx_nx_e (t := t) (ns := (lx_at t M lx_ns j).2) hM J3 J1 g1 g2
  refine ⟨?_, x1, x2⟩
  have ep : lx_p t M lx_ns j = (lx_sk t M (lx_at t M lx_ns j).1).1 := by
    unfold lx_p
    cases hs : (lx_sk t M (lx_at t M lx_ns j).1).2 with
    | false => rw [lx_nx_no hs]
    | true => rw [lx_nx_ok hs]
  rw [ep]; exact sb1
theorem lx_Pm {j : Nat} (hM : M ≤ 8192) : ∀ d, lx_b t M (j + d) → (lx_at t M lx_ns j).1 ≤ (lx_at t M lx_ns (j + d)).1
  | 0, _ => Nat.le_refl _
  | d + 1, hb => by
    have h1 := lx_Pm (j := j) hM d (fun i hi => hb i (by omega))
    have h2 := lx_st (j := j + d) hM hb
    rw [← Nat.add_assoc]
    omega
theorem lx_wd2 {j : Nat} (hM : M ≤ 8192) (hb : lx_b t M (j + 1)) (hk : lx_k t M lx_ns j ≤ 41) (hk2 : lx_k t M lx_ns (j + 1) ≤ 41) : (lx_at t M lx_ns (j + 1)).1 + 1 ≤ lx_p t M lx_ns (j + 1) := by
  obtain ⟨_, _, _, _, _, g6, _⟩ := lx_wd1 hM (fun i hi => hb i (by omega)) hk
  obtain ⟨f1, f2, f3, f4, f5, _, _⟩ := lx_wd1 hM hb hk2
  rcases Nat.eq_or_lt_of_le f1 with w | w
  · exfalso
    rw [w, show lx_i t M (lx_p t M lx_ns (j + 1)) = (t (lx_p t M lx_ns (j + 1)) : Int) from if_pos f4, f5] at g6
    cases g6
  · exact w
theorem lx_nsp (j : Nat) : lx_ns <+: (lx_at t M lx_ns j).2 := by
  have := nq_mono (t := t) (M := M) j 0
  rw [Nat.zero_add, lx_at0] at this
  dsimp only at this
  exact this
theorem lx_wd3 {j k : Nat} (hM : M ≤ 8192) (hb : lx_b t M j) (hk : lx_k t M lx_ns j = k) (h41 : k < 41) {w : List Nat} (hw : lx_ns[k]? = some w) : (lx_at t M lx_ns (j + 1)).1 = lx_p t M lx_ns j + w.length := by
  obtain ⟨_, g2, _, _, _, _, v, v1, v2, v3⟩ := lx_wd1 hM hb (by omega)
  have vk : v = k := by omega
  rw [vk, nq_get (lx_nsp (j + 1)) hw] at v3
  have := congrArg List.length (Option.some.inj v3)
  rw [nt_w_len] at this
  omega
/-- names -/
theorem lx_nm {n : Nat} (hM : M ≤ 8192) : ∀ j, j ≤ n → lx_b t M j → 2 * nmc (pt_T t M n) j ≤ (lx_at t M lx_ns j).1 + 1 ∧ (lx_np (lx_i t M (lx_at t M lx_ns j).1) = true → 2 * nmc (pt_T t M n) j ≤ (lx_at t M lx_ns j).1)
  | 0, _, _ => ⟨Nat.zero_le _, fun _ => Nat.zero_le _⟩
  | j + 1, hj, hb => by
    have hb' : lx_b t M j := fun i hi => hb i (by omega)
    obtain ⟨i1, i2⟩ := lx_nm (n := n) hM j (by omega) hb'
    obtain ⟨s1, s2, s3⟩ := lx_st hM hb
    have eT : (pt_T t M n).1 j = lx_k t M lx_ns j := if_pos (by omega)
    show 2 * (nmc (pt_T t M n) j + (if (pt_T t M n).1 j = 41 then 1 else 0)) ≤ _ ∧ (_ → 2 * (nmc (pt_T t M n) j + (if (pt_T t M n).1 j = 41 then 1 else 0)) ≤ _)
    rw [eT]
    by_cases q : lx_k t M lx_ns j = 41
    · rw [if_pos q]
      obtain ⟨g1, g2, g3, g4, g5, g6, _⟩ := lx_wd1 hM hb' (by omega)
      refine ⟨?_, fun z => by rw [g6] at z; cases z⟩
      rcases Nat.eq_or_lt_of_le g1 with w | w
      · have := i2 (by rw [w, show lx_i t M (lx_p t M lx_ns j) = (t (lx_p t M lx_ns j) : Int) from if_pos g4]; exact g5)
        omega
      · omega
    · rw [if_neg q]
      exact ⟨by omega, fun _ => by omega⟩
theorem lx_nmn {n : Nat} (hN : rp_n t M n) : nmc (pt_T t M n) n ≤ 4096 := by
  obtain ⟨hM, p1, p2, p3, p4⟩ := hN
  have h := (lx_nm (n := n) hM (n - 1) (by omega) p1).1
  have h2 := (lx_at_J hM (n - 1) p1).2.2
  obtain ⟨m, rfl⟩ : ∃ m, n = m + 1 := ⟨n - 1, by omega⟩
  have eT : (pt_T t M (m + 1)).1 m = lx_k t M lx_ns m := if_pos (by omega)
  show nmc (pt_T t M (m + 1)) m + (if (pt_T t M (m + 1)).1 m = 41 then 1 else 0) ≤ 4096
  have p4 : lx_k t M lx_ns m = 45 ∨ lx_k t M lx_ns m = 44 := p4
  have h : 2 * nmc (pt_T t M (m + 1)) m ≤ (lx_at t M lx_ns m).1 + 1 := h
  have h2 : (lx_at t M lx_ns m).1 ≤ M := h2
  rw [eT, if_neg (by omega)]
  omega
/-- tokens before the last -/
theorem pt_bk {n j : Nat} (hN : rp_n t M n) (h4 : (pt_T t M n).1 j ≠ 44) (h5 : (pt_T t M n).1 j ≠ 45) : j + 1 < n ∧ (pt_T t M n).1 j = lx_k t M lx_ns j ∧ lx_b t M (j + 1) := by
  obtain ⟨hM, p1, p2, p3, p4⟩ := hN
  by_cases w : j < n
  · have eT : (pt_T t M n).1 j = lx_k t M lx_ns j := if_pos w
    have ne : j + 1 < n := by
      rcases Nat.lt_or_ge (j + 1) n with u | u
      · exact u
      · exfalso
        rw [show n - 1 = j by omega] at p4
        omega
    exact ⟨ne, eT, fun i hi => p1 i (by omega)⟩
  · exact absurd (show (pt_T t M n).1 j = 44 from if_neg w) h4
theorem lx_kw : ∃ w0 w1 w2 w3 w4 w5, lx_ns[0]? = some w0 ∧ lx_ns[1]? = some w1 ∧ lx_ns[2]? = some w2 ∧ lx_ns[3]? = some w3 ∧ lx_ns[4]? = some w4 ∧ lx_ns[5]? = some w5 ∧ 18 ≤ w0.length + w1.length ∧ 18 ≤ w2.length + w3.length ∧ 18 ≤ w4.length + w5.length := by
  have h : (decide (18 ≤ (lx_ns.getD 0 []).length + (lx_ns.getD 1 []).length ∧ 18 ≤ (lx_ns.getD 2 []).length + (lx_ns.getD 3 []).length ∧ 18 ≤ (lx_ns.getD 4 []).length + (lx_ns.getD 5 []).length ∧ 6 ≤ lx_ns.length)) = true := by unfold lx_ns; decide +kernel
  obtain ⟨h1, h2, h3, h4⟩ := of_decide_eq_true h
  have g : ∀ k, k < 6 → lx_ns[k]? = some (lx_ns.getD k []) := fun k hk => by
    rw [List.getD_eq_getElem?_getD, List.getElem?_eq_getElem (by omega)]; rfl
  exact ⟨_, _, _, _, _, _, g 0 (by omega), g 1 (by omega), g 2 (by omega), g 3 (by omega), g 4 (by omega), g 5 (by omega), h1, h2, h3⟩
/-- a block -/
theorem lx_blk {n : Nat} {c : pg_C} (hN : rp_n t M n) (hc : pg_any (pt_T t M n) [0, 2, 4] c = true) (z : pg_live (pt_T t M n) (pg_block (pt_T t M n) c).1) : 20 + (lx_at t M lx_ns c.1).1 ≤ (lx_at t M lx_ns (pg_block (pt_T t M n) c).1.1).1 ∧ (lx_at t M lx_ns (pg_block (pt_T t M n) c).1.1).1 ≤ M := by
  have hM := hN.1
  obtain ⟨c2, h1, h2, h3, h4, h5, h6, h7, h8, h9, h10, h11, h12, h13⟩ := pg_blk hc z
  rw [h10]
  rw [h13] at h9
  clear h1 h3 h4 h5 h7 h10 h11 z
  obtain ⟨a1, a2, a3⟩ := pt_bk (j := c.1) hN (by omega) (by omega)
  obtain ⟨b1, b2, b3⟩ := pt_bk (j := c.1 + 1) hN (by omega) (by omega)
  obtain ⟨e1, e2, e3⟩ := pt_bk (j := c2.1) hN (by omega) (by omega)
  obtain ⟨w0, w1, w2, w3, w4, w5, g0, g1, g2, g3, g4, g5, l1, l2, l3⟩ := lx_kw
  have hb0 : lx_b t M c.1 := fun i hi => a3 i (by omega)
  have hb2 : lx_b t M c2.1 := fun i hi => e3 i (by omega)
  have q1 := (lx_st hM a3).1
  have q2 := lx_wd2 hM a3 (by omega) (by omega)
  have q3 := (lx_wd1 hM a3 (by omega)).2.1
  have q4 := lx_Pm (j := c.1 + 2) hM (c2.1 - (c.1 + 2)) (by rw [show c.1 + 2 + (c2.1 - (c.1 + 2)) = c2.1 by omega]; exact hb2)
  rw [show c.1 + 2 + (c2.1 - (c.1 + 2)) = c2.1 by omega] at q4
  have q5 := lx_st hM e3
  have q3 : lx_p t M lx_ns (c.1 + 1) < (lx_at t M lx_ns (c.1 + 2)).1 := q3
  refine ⟨?_, q5.2.2⟩
  rcases h12 with k | k | k
  · have r1 := lx_wd3 hM hb0 (show lx_k t M lx_ns c.1 = 0 by omega) (by omega) g0
    have r2 := lx_wd3 hM hb2 (show lx_k t M lx_ns c2.1 = 1 by omega) (by omega) g1
    omega
  · have r1 := lx_wd3 hM hb0 (show lx_k t M lx_ns c.1 = 2 by omega) (by omega) g2
    have r2 := lx_wd3 hM hb2 (show lx_k t M lx_ns c2.1 = 3 by omega) (by omega) g3
    omega
  · have r1 := lx_wd3 hM hb0 (show lx_k t M lx_ns c.1 = 4 by omega) (by omega) g4
    have r2 := lx_wd3 hM hb2 (show lx_k t M lx_ns c2.1 = 5 by omega) (by omega) g5
    omega
theorem lx_blks {n : Nat} (hN : rp_n t M n) : ∀ (N : Nat) (c : pg_C), (lx_at t M lx_ns c.1).1 ≤ M → pg_live (pt_T t M n) (pg_whl (pg_any (pt_T t M n) [0, 2, 4]) (pg_block (pt_T t M n)) N c).1 → 20 * (sh_t (pg_whl (pg_any (pt_T t M n) [0, 2, 4]) (pg_block (pt_T t M n)) N c).2).length + (lx_at t M lx_ns c.1).1 ≤ M
  | 0, c, h0, _ => by
    show 20 * (sh_t []).length + _ ≤ M
    rw [sh_t0]
    show 20 * 0 + _ ≤ M
    omega
  | N + 1, c, h0, z => by
    have ih := lx_blks hN N
    unfold pg_whl pg_ite at z ⊢
    cases h : pg_any (pt_T t M n) [0, 2, 4] c with
    | false =>
      show 20 * (sh_t []).length + _ ≤ M
      rw [sh_t0]
      show 20 * 0 + _ ≤ M
      omega
    | true =>
      rw [h] at z
      have z : pg_live (pt_T t M n) (pg_whl (pg_any (pt_T t M n) [0, 2, 4]) (pg_block (pt_T t M n)) N (pg_block (pt_T t M n) c).1).1 := z
      have zb := pg_bk (pg_dwhl (a := pg_block (pt_T t M n)) (pg_gany (pt_T t M n) (ks := [0, 2, 4]) (by decide)) N) z
      obtain ⟨g1, g2⟩ := lx_blk hN h zb
      have h2 := ih _ g2 z
      obtain ⟨c2, _, _, _, _, _, _, _, _, _, _, h11, _, _⟩ := pg_blk h zb
      have hs := (pg_Hblock h zb).1.1
      show 20 * (sh_t ((pg_block (pt_T t M n) c).2 ++ (pg_whl (pg_any (pt_T t M n) [0, 2, 4]) (pg_block (pt_T t M n)) N (pg_block (pt_T t M n) c).1).2)).length + _ ≤ M
      rw [sh_ta hs, List.length_append]
      have e1 : (sh_t (pg_block (pt_T t M n) c).2).length = 1 := by
        rw [h11, sh_tn rfl]; rfl
      rw [e1]
      omega
end LXB
