/-! THE TEXT's nodes: what is known of them -/
section TXG
variable {t : Nat → Nat} {M : Nat}
theorem lx_tok_ns {q : Nat} {ns : List (List Nat)} (h : 41 < (lx_tok t M q ns).1.1) : (lx_tok t M q ns).2 = ns := by
  unfold lx_tok at h ⊢
  split
  · rfl
  rename_i h1
  rw [if_neg h1] at h
  split
  · rfl
  rename_i h2
  rw [if_neg h2] at h
  split
  · rfl
  rename_i h3
  rw [if_neg h3] at h
  split
  · rename_i h4
    rw [if_pos h4] at h
    unfold lx_nam at h ⊢
    split
    · rfl
    rename_i h5
    rw [if_neg h5] at h
    split
    · rfl
    rename_i h6
    rw [if_neg h6] at h
    exfalso
    have h : 41 < min ns.length 41 := h
    omega
  split
  · rfl
  · rfl
theorem lx_nx_ns {s : Nat × List (List Nat)} (h : 41 < (lx_nx t M s).2.1.1) : (lx_nx t M s).2.2 = s.2 := by
  cases hs : (lx_sk t M s.1).2 with
  | false => rw [lx_nx_no hs]
  | true => rw [lx_nx_ok hs] at h ⊢; exact lx_tok_ns h
theorem lx_nnl {n : Nat} (hN : rp_n t M n) : 75 ≤ (lx_at t M lx_ns n).2.length ∧ (lx_at t M lx_ns n).2.length ≤ 4171 := by
  obtain ⟨hM, p1, p2, p3, p4⟩ := hN
  obtain ⟨m, rfl⟩ : ∃ m, n = m + 1 := ⟨n - 1, by omega⟩
  have p1 : lx_b t M m := p1
  have p4 : lx_k t M lx_ns m = 45 ∨ lx_k t M lx_ns m = 44 := p4
  obtain ⟨J1, J2, J3⟩ := lx_at_J hM m p1
  have e : (lx_at t M lx_ns (m + 1)).2 = (lx_at t M lx_ns m).2 := lx_nx_ns (s := lx_at t M lx_ns m) (by
    have : 41 < lx_k t M lx_ns m := by omega
    exact this)
  have l75 : lx_ns.length = 75 := nl_N_len.1
  have hl := (lx_nsp (t := t) (M := M) m).length_le
  have j2 := J1.2.1
  rw [e]
  omega
/-- a place -/
theorem lx_43 {j : Nat} (hM : M ≤ 8192) (hb : lx_b t M (j + 1)) (hk : lx_k t M lx_ns j = 43) : ∃ a o, a < 6 ∧ o < 256 ∧ (3 ≤ a → o < 64) ∧ lx_v t M lx_ns j = 256 * a + o := by
  obtain ⟨J1, J2, J3⟩ := lx_at_J hM j (fun i hi => hb i (by omega))
  have sb := lx_sk_b (t := t) (M := M) (M + 1 - (lx_at t M lx_ns j).1) (lx_at t M lx_ns j).1 J3
  have sb1 : (lx_at t M lx_ns j).1 ≤ (lx_sk t M (lx_at t M lx_ns j).1).1 := sb.1
  have sb2 : (lx_sk t M (lx_at t M lx_ns j).1).1 ≤ M := sb.2
  have J4 := lx_J_sk J1 sb1
  cases hs : (lx_sk t M (lx_at t M lx_ns j).1).2 with
  | false =>
    exfalso
    unfold lx_k at hk
    rw [lx_nx_no hs] at hk
    exact absurd (show (45 : Nat) = 43 from hk) (by decide)
  | true =>
    unfold lx_k at hk
    unfold lx_v
    rw [lx_nx_ok hs] at hk ⊢
    dsimp only at hk ⊢
    generalize (lx_sk t M (lx_at t M lx_ns j).1).1 = q at *
    generalize (lx_at t M lx_ns j).2 = ns at *
    unfold lx_tok at hk ⊢
    by_cases h1 : M ≤ q
    · rw [if_pos h1] at hk; exact absurd (show (44 : Nat) = 43 from hk) (by decide)
    rw [if_neg h1] at hk ⊢
    by_cases h2 : (t q = 84 ∨ t q = 116) ∧ lx_i t M (q + 1) = 35
    · rw [if_pos h2] at hk
      have hq := lx_i_in (t := t) (M := M) (p := q + 1) (by rw [h2.2]; decide)
      have hk : (lx_tim t M q).1 = 43 := hk
      obtain ⟨v, e, g1, _⟩ := lx_tim_e hq (show (lx_tim t M q).1 ≠ 45 by omega)
      rw [g1] at hk
      exact absurd (show (42 : Nat) = 43 from hk) (by decide)
    rw [if_neg h2] at hk ⊢
    by_cases h3 : lx_dg (t q) = true
    · rw [if_pos h3] at hk
      have hk : (lx_num t M q).1 = 43 := hk
      obtain ⟨v, e, g1, _⟩ := lx_num_e (by omega) h3 (show (lx_num t M q).1 ≠ 45 by omega)
      rw [g1] at hk
      exact absurd (show (42 : Nat) = 43 from hk) (by decide)
    rw [if_neg h3] at hk ⊢
    by_cases h4 : lx_np (t q) = true
    · rw [if_pos h4] at hk
      obtain ⟨v, g1, _⟩ := lx_nam_e (by omega) hM h4 J4 (show (lx_nam t M q ns).1.1 ≠ 45 by omega)
      rw [g1] at hk
      have hk : min v 41 = 43 := hk
      omega
    rw [if_neg h4] at hk ⊢
    by_cases h5 : t q = 37
    · rw [if_pos h5] at hk ⊢
      have hk : (lx_pla t M q).1 = 43 := hk
      show ∃ a o, a < 6 ∧ o < 256 ∧ (3 ≤ a → o < 64) ∧ (lx_pla t M q).2.1 = 256 * a + o
      unfold lx_pla at hk ⊢
      by_cases w : lx_area (lx_gi t M (q + 1)) ≠ 9 ∧ (lx_gi t M (q + 2) = 88 ∨ lx_gi t M (q + 2) = 87) ∧ lx_de t M 10 (q + 3) ≠ q + 3 ∧ lx_dv t M 10 (q + 3) 0 ≤ (if lx_gi t M (q + 2) = 88 then 255 else 63) ∧ lx_np (lx_i t M (lx_de t M 10 (q + 3))) = false
      · rw [if_pos w]
        obtain ⟨q1, q2, q3, q4, q5⟩ := w
        have ha : lx_area (lx_gi t M (q + 1)) ≤ 2 := by
          rcases lx_ar_a (lx_gi t M (q + 1)) with z | z
          · exact absurd z.1 q1
          · omega
        by_cases z : lx_gi t M (q + 2) = 88
        · rw [if_pos z] at q4 ⊢
          exact ⟨lx_area (lx_gi t M (q + 1)) + 0, lx_dv t M 10 (q + 3) 0, by omega, by omega, fun y => by omega, rfl⟩
        · rw [if_neg z] at q4 ⊢
          exact ⟨lx_area (lx_gi t M (q + 1)) + 3, lx_dv t M 10 (q + 3) 0, by omega, by omega, fun y => by omega, rfl⟩
      · rw [if_neg w] at hk; exact absurd (show (45 : Nat) = 43 from hk) (by decide)
    rw [if_neg h5] at hk
    have hk : (lx_sgn t M q).1 = 43 := hk
    obtain ⟨k, e, g1, g2, _⟩ := lx_sgn_e (by omega) (show (lx_sgn t M q).1 ≠ 45 by omega)
    rw [g1] at hk
    have hk : k = 43 := hk
    omega
/-- the text's tree -/
def tx_l (T : pg_T) : List pg_N := (0, 0, 0, (pg_whl (pg_any T [0, 2, 4]) (pg_block T) pg_M (0, 0, 0)).2.length + 1) :: (pg_whl (pg_any T [0, 2, 4]) (pg_block T) pg_M (0, 0, 0)).2
def tx_c (T : pg_T) : pg_C := (pg_whl (pg_any T [0, 2, 4]) (pg_block T) pg_M (0, 0, 0)).1
theorem tx_nv {n : Nat} (hN : rp_n t M n) {k : Nat} {v : Int32} (h : nd_k (pt_T t M n) k v) : nv_k (lx_at t M lx_ns n).2.length k v := by
  obtain ⟨h1, h2, h3, h4, h5, h6, h7⟩ := h
  have hM := hN.1
  refine ⟨h1, fun z => ?_, h2, h3, h4, h5, fun z => ?_⟩
  · have hk : k = 1 ∨ k = 2 ∨ k = 3 ∨ k = 6 ∨ k = 10 ∨ k = 13 ∨ k = 14 ∨ k = 19 ∨ k = 32 ∨ k = 33 ∨ k = 34 := by
      unfold rp_nk at z
      simpa using z
    obtain ⟨j, j1, j2⟩ := h6 hk
    obtain ⟨b1, b2, b3⟩ := pt_bk (j := j) hN (by omega) (by omega)
    rw [b2] at j1
    obtain ⟨w1, w2⟩ := nq_w hM (fun i hi => b3 i (by omega)) j1
    have lt : lx_v t M lx_ns j < (lx_at t M lx_ns (j + 1)).2.length := by
      rcases Nat.lt_or_ge (lx_v t M lx_ns j) (lx_at t M lx_ns (j + 1)).2.length with y | y
      · exact y
      · rw [List.getElem?_eq_none y] at w1; cases w1
    have mo := (nq_mono (t := t) (M := M) (n - (j + 1)) (j + 1)).length_le
    rw [show j + 1 + (n - (j + 1)) = n by omega] at mo
    have l2 := (lx_nnl hN).2
    have j2 : v = nI (lx_v t M lx_ns j) := j2
    rw [j2, nI_toInt (by omega)]
    omega
  · obtain ⟨j, j1, j2⟩ := h7 z
    obtain ⟨b1, b2, b3⟩ := pt_bk (j := j) hN (by omega) (by omega)
    rw [b2] at j1
    obtain ⟨a, o, a1, a2, a3, a4⟩ := lx_43 hM b3 j1
    refine ⟨a, o, a1, a2, a3, ?_⟩
    rw [j2, ← a4]
    rfl
theorem tx_G {n : Nat} (hN : rp_n t M n) (hc : (tx_c (pt_T t M n)).1 < n) (z : pg_live (pt_T t M n) (tx_c (pt_T t M n))) : lg_G (tx_l (pt_T t M n)) (lx_at t M lx_ns n).2.length ∧ nd_l (pt_T t M n) (tx_l (pt_T t M n)) ∧ rl_k (tx_l (pt_T t M n)) 0 = 0 := by
  have hM := hN.1
  have n1 : n ≤ M + 1 := hN.2.2.2.1
  have z' : pg_live (pt_T t M n) (pg_whl (pg_any (pt_T t M n) [0, 2, 4]) (pg_block (pt_T t M n)) pg_M (0, 0, 0)).1 := z
  have hc : (pg_whl (pg_any (pt_T t M n) [0, 2, 4]) (pg_block (pt_T t M n)) pg_M (0, 0, 0)).1.1 < n := hc
  have hd := pg_Qblocks (pt_T t M n) pg_M (0, 0, 0) z'
  have hL := pg_Lwhl2 (pg_gany (pt_T t M n) (ks := [0, 2, 4]) (by decide)) pg_Lblock pg_M (0, 0, 0) z'
  have hH := pg_Htext z' 0 0
  have hw := tz_wn (pg_wwhl (pg_wblock (pt_T t M n)) (p := pg_any (pt_T t M n) [0, 2, 4]) pg_M (0, 0, 0)) 0 0 0
  unfold tx_l
  clear z z'
  generalize pg_whl (pg_any (pt_T t M n) [0, 2, 4]) (pg_block (pt_T t M n)) pg_M (0, 0, 0) = r at *
  have hL : (r.2.length : Int) + 2 * ((0 : Nat) : Int) ≤ 2 * (r.1.1 : Int) + 0 := hL
  have hd' : nd_l (pt_T t M n) ((0, 0, 0, r.2.length + 1) :: r.2) := nd_c hd (nd_k0 (by decide))
  refine ⟨⟨hw, rfl, by rw [List.length_cons]; omega, by rw [List.length_cons]; omega, hH, fun i hi => ?_⟩, hd', rfl⟩
  have hx := rl_xg hi
  exact tx_nv hN (hd' _ (List.mem_of_getElem? hx))
/-- counts -/
theorem cV_c (l : List pg_N) : cV l l.length = cvl l := by
  have e : (List.range l.length).map (rl_x l) = l := by
    apply List.ext_getElem?
    intro i
    rw [List.getElem?_map]
    by_cases w : i < l.length
    · rw [List.getElem?_range w]
      exact (rl_xg w).symm
    · rw [List.getElem?_eq_none (by rw [List.length_range]; omega), List.getElem?_eq_none (by omega)]; rfl
  have : cvl ((List.range l.length).map (rl_x l)) = cV l l.length := by
    unfold cvl cV
    rw [List.filter_map, List.length_map]
    rfl
  rw [e] at this
  exact this.symm
theorem cB_c {l : List pg_N} {NN : Nat} (hG : lg_G l NN) (h0r : rl_k l 0 = 0) : cB l l.length ≤ (rl_c l 0).length := by
  unfold cB
  refine List.Nodup.length_le_of_subset (List.Pairwise.filter _ List.nodup_range) (fun j hj => ?_)
  obtain ⟨h1, h2⟩ := List.mem_filter.mp hj
  have h1 := List.mem_range.mp h1
  have h2 := of_decide_eq_true h2
  have j0 : 0 < j := by
    rcases Nat.eq_zero_or_pos j with w | w
    · rw [w, h0r] at h2; omega
    · exact w
  have e := lg_b0 hG h1 j0 h2
  have m := (lg_par hG h1 j0).2.1
  rw [e] at m
  exact m
theorem sh_cl {l0 : List pg_N} {v : Int32} (hw : tz_w ((0, 0, v, l0.length + 1) :: l0)) : (rl_c ((0, 0, v, l0.length + 1) :: l0) 0).length = (sh_t l0).length := by
  generalize el : (0, 0, v, l0.length + 1) :: l0 = l at *
  have hi : 0 < l.length := by rw [← el, List.length_cons]; omega
  have hz : rl_z l 0 = l0.length + 1 := by rw [← el]; rfl
  have hm : (l.map sh_p).map (·.1) = l := by rw [List.map_map]; exact List.map_id'' (fun _ => rfl) l
  have e := rl_tch (L := l.map sh_p) hm l.length (0 + 1) (0 + rl_z l 0) (rl_zc hw hi).2 (rl_cli hw hi) (by have := (rl_zc hw hi).2; omega)
  have e2 := congrArg List.length e
  rw [List.length_map] at e2
  show (rl_ch l l.length (0 + 1) (0 + rl_z l 0)).length = _
  rw [← e2]
  unfold sh_t
  have e3 : ((l.map sh_p).drop (0 + 1)).take (0 + rl_z l 0 - (0 + 1)) = l0.map sh_p := by
    rw [← el] at hz ⊢
    rw [hz, List.map_cons, Nat.zero_add, List.drop_succ_cons, List.drop_zero]
    rw [List.take_of_length_le (by rw [List.length_map]; omega)]
  rw [e3]
theorem tx_C {n : Nat} (hN : rp_n t M n) (hc : (tx_c (pt_T t M n)).1 < n) (z : pg_live (pt_T t M n) (tx_c (pt_T t M n))) : lg_C (tx_l (pt_T t M n)) := by
  obtain ⟨hG, _, h0r⟩ := tx_G hN hc z
  have z' : pg_live (pt_T t M n) (pg_whl (pg_any (pt_T t M n) [0, 2, 4]) (pg_block (pt_T t M n)) pg_M (0, 0, 0)).1 := z
  have hc' : (pg_whl (pg_any (pt_T t M n) [0, 2, 4]) (pg_block (pt_T t M n)) pg_M (0, 0, 0)).1.1 < n := hc
  have hb := lx_blks hN pg_M (0, 0, 0) (Nat.zero_le _) z'
  have hj := pg_Jblocks (pt_T t M n) pg_M (0, 0, 0) z'
  have nn := lx_nmn hN
  have hM := hN.1
  have c1 := cB_c hG h0r
  have c2 := cV_c (tx_l (pt_T t M n))
  have e1 : cvl (tx_l (pt_T t M n)) = cvl (pg_whl (pg_any (pt_T t M n) [0, 2, 4]) (pg_block (pt_T t M n)) pg_M (0, 0, 0)).2 := by
    unfold tx_l
    exact cvl_n (by decide)
  have e2 : (rl_c (tx_l (pt_T t M n)) 0).length = (sh_t (pg_whl (pg_any (pt_T t M n) [0, 2, 4]) (pg_block (pt_T t M n)) pg_M (0, 0, 0)).2).length := by
    unfold tx_l
    exact sh_cl hG.1
  rw [e2] at c1
  rw [e1] at c2
  generalize pg_whl (pg_any (pt_T t M n) [0, 2, 4]) (pg_block (pt_T t M n)) pg_M (0, 0, 0) = r at *
  have hj : cvl r.2 + nmc (pt_T t M n) 0 ≤ nmc (pt_T t M n) r.1.1 := hj
  have mo := nmc_m (T := pt_T t M n) (Nat.le_of_lt hc')
  refine ⟨?_, ?_⟩
  · have hb : 20 * (sh_t r.2).length + 0 ≤ M := hb
    omega
  · rw [c2]
    omega
end TXG
