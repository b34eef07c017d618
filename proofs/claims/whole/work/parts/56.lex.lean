/-! READING ALL TOKENS -/
theorem lx_fin_g {t : Nat → Nat} {M e v : Nat} (h : (lx_fin t M e v).1 ≠ 45) : lx_fin t M e v = (42, v, e) ∧ v ≤ 2147483647 := by
  unfold lx_fin at *
  by_cases q : lx_np (lx_i t M e) = true ∨ 2147483647 < v
  · rw [if_pos q] at h; exact absurd rfl h
  · rw [if_neg q]; exact ⟨rfl, by omega⟩
theorem lx_gi_in {t : Nat → Nat} {M p : Nat} (h : ¬ lx_gi t M p = -1) : p < M := by
  unfold lx_gi at h
  by_cases q : p < M
  · exact q
  · rw [if_neg q] at h; exact absurd rfl h
theorem lx_unit_e {t : Nat → Nat} {M p : Nat} (h : (lx_unit t M p).1 ≠ 0) : p + (lx_unit t M p).2 ≤ M ∧ 1 ≤ (lx_unit t M p).2 := by
  unfold lx_unit at *
  by_cases h1 : lx_gi t M p = 77 ∧ lx_gi t M (p + 1) = 83
  · rw [if_pos h1]
    have := lx_gi_in (t := t) (M := M) (p := p + 1) (by rw [h1.2]; decide)
    exact ⟨by omega, by decide⟩
  rw [if_neg h1] at h ⊢
  by_cases h2 : lx_gi t M p = 83
  · rw [if_pos h2]
    have := lx_gi_in (t := t) (M := M) (p := p) (by rw [h2]; decide)
    exact ⟨by omega, by decide⟩
  rw [if_neg h2] at h ⊢
  by_cases h3 : lx_gi t M p = 77
  · rw [if_pos h3]
    have := lx_gi_in (t := t) (M := M) (p := p) (by rw [h3]; decide)
    exact ⟨by omega, by decide⟩
  rw [if_neg h3] at h ⊢
  by_cases h4 : lx_gi t M p = 72
  · rw [if_pos h4]
    have := lx_gi_in (t := t) (M := M) (p := p) (by rw [h4]; decide)
    exact ⟨by omega, by decide⟩
  rw [if_neg h4] at h
  exact absurd rfl h
theorem lx_deB {t : Nat → Nat} {M b p : Nat} : p ≤ lx_de t M b p ∧ (p ≤ M → lx_de t M b p ≤ M) := lx_de_b _ _
theorem lx_tim_e {t : Nat → Nat} {M p : Nat} (hp : p + 1 < M) (h : (lx_tim t M p).1 ≠ 45) : ∃ v e, lx_tim t M p = (42, v, e) ∧ v ≤ 2147483647 ∧ p < e ∧ e ≤ M := by
  unfold lx_tim at *
  have b := lx_deB (t := t) (M := M) (b := 10) (p := p + 2)
  by_cases q : lx_de t M 10 (p + 2) = p + 2 ∨ (lx_unit t M (lx_de t M 10 (p + 2))).1 = 0
  · rw [if_pos q] at h; exact absurd rfl h
  · rw [if_neg q] at h ⊢
    obtain ⟨g1, g2⟩ := lx_fin_g h
    have u := lx_unit_e (t := t) (M := M) (p := lx_de t M 10 (p + 2)) (fun z => q (Or.inr z))
    exact ⟨_, _, g1, g2, by omega, by omega⟩
theorem lx_num_e {t : Nat → Nat} {M p : Nat} (hp : p < M) (hd : lx_dg (t p) = true) (h : (lx_num t M p).1 ≠ 45) : ∃ v e, lx_num t M p = (42, v, e) ∧ v ≤ 2147483647 ∧ p < e ∧ e ≤ M := by
  have hdk : lx_dk (t p) < 10 := by
    have hd : (48 : Int) ≤ t p ∧ (t p : Int) ≤ 57 := by unfold lx_dg at hd; simpa using hd
    unfold lx_dk; rw [if_pos (by omega)]; omega
  have b1 : p + 1 ≤ lx_de t M 10 p := by rw [lx_de_u, if_pos ⟨hp, hdk⟩]; exact lx_deB.1
  have b := lx_deB (t := t) (M := M) (b := 10) (p := p)
  unfold lx_num at *
  by_cases q : lx_i t M (lx_de t M 10 p) = 35
  · rw [if_pos q] at h ⊢
    have := lx_i_in (t := t) (M := M) (p := lx_de t M 10 p) (by rw [q]; decide)
    by_cases q2 : (lx_dv t M 10 p 0 = 16 ∨ lx_dv t M 10 p 0 = 2) ∧ lx_de t M (lx_dv t M 10 p 0) (lx_de t M 10 p + 1) ≠ lx_de t M 10 p + 1
    · rw [if_pos q2] at h ⊢
      obtain ⟨g1, g2⟩ := lx_fin_g h
      have b2 := lx_deB (t := t) (M := M) (b := lx_dv t M 10 p 0) (p := lx_de t M 10 p + 1)
      exact ⟨_, _, g1, g2, by omega, by omega⟩
    · rw [if_neg q2] at h; exact absurd rfl h
  · rw [if_neg q] at h ⊢
    obtain ⟨g1, g2⟩ := lx_fin_g h
    exact ⟨_, _, g1, g2, by omega, by omega⟩
theorem lx_pla_e {t : Nat → Nat} {M p : Nat} (h : (lx_pla t M p).1 ≠ 45) : ∃ v e, lx_pla t M p = (43, v, e) ∧ v < 1536 ∧ p < e ∧ e ≤ M := by
  unfold lx_pla at *
  have b := lx_deB (t := t) (M := M) (b := 10) (p := p + 3)
  by_cases q : lx_area (lx_gi t M (p + 1)) ≠ 9 ∧ (lx_gi t M (p + 2) = 88 ∨ lx_gi t M (p + 2) = 87) ∧ lx_de t M 10 (p + 3) ≠ p + 3 ∧ lx_dv t M 10 (p + 3) 0 ≤ (if lx_gi t M (p + 2) = 88 then 255 else 63) ∧ lx_np (lx_i t M (lx_de t M 10 (p + 3))) = false
  · rw [if_pos q]
    obtain ⟨q1, q2, q3, q4, q5⟩ := q
    have hM : p + 3 < M := by
      rcases Nat.lt_or_ge (p + 3) M with z | z
      · exact z
      · rw [lx_de_u, if_neg (by omega)] at q3; exact absurd rfl q3
    have ha : lx_area (lx_gi t M (p + 1)) ≤ 2 := by
      rcases lx_ar_a (lx_gi t M (p + 1)) with z | z
      · exact absurd z.1 q1
      · omega
    refine ⟨_, _, rfl, ?_, by omega, by omega⟩
    by_cases w : lx_gi t M (p + 2) = 88
    · rw [if_pos w] at q4 ⊢; omega
    · rw [if_neg w] at q4 ⊢; omega
  · rw [if_neg q] at h; exact absurd rfl h
theorem lx_sgn_e {t : Nat → Nat} {M p : Nat} (hp : p < M) (h : (lx_sgn t M p).1 ≠ 45) : ∃ k e, lx_sgn t M p = (k, 0, e) ∧ (47 ≤ k ∧ k ≤ 68) ∧ p < e ∧ e ≤ M := by
  unfold lx_sgn at *
  by_cases q : lx_two (lx_i t M p) (lx_i t M (p + 1)) ≠ -1
  · rw [if_pos q]
    rcases lx_two_n (lx_i t M p) (lx_i t M (p + 1)) with z | z
    · exact absurd z q
    · refine ⟨_, _, rfl, by omega, by omega, ?_⟩
      have : p + 1 < M := lx_i_in (t := t) (M := M) (p := p + 1) (fun w => q (by
        rw [w]
        unfold lx_two
        repeat' split
        all_goals first | rfl | (rename_i v; exact absurd v.2 (by decide))))
      omega
  · rw [if_neg q] at h ⊢
    by_cases w : t p ∈ lx_sgs
    · rw [if_pos w]
      have : lx_sgs.idxOf (t p) < 17 := List.idxOf_lt_length_of_mem w
      exact ⟨_, _, rfl, by omega, by omega, by omega⟩
    · rw [if_neg w] at h; exact absurd rfl h
theorem lx_neB {t : Nat → Nat} {M p : Nat} : p ≤ lx_ne t M p ∧ (p ≤ M → lx_ne t M p ≤ M) := lx_ne_b _ _
theorem lx_ne_end {t : Nat → Nat} {M : Nat} : ∀ (n p : Nat), M - p = n → lx_np (lx_i t M (lx_ne t M p)) = false := by
  intro n
  induction n with
  | zero =>
    intro p h
    rw [lx_ne_u, if_neg (by omega), lx_i_out (by omega)]
    rfl
  | succ n ih =>
    intro p h
    rw [lx_ne_u]
    by_cases q : p < M ∧ lx_np (t p) = true
    · rw [if_pos q]; exact ih (p + 1) (by omega)
    · rw [if_neg q, show lx_i t M p = (t p : Int) from if_pos (by omega)]
      cases e : lx_np (t p) with
      | false => rfl
      | true => exact absurd ⟨by omega, e⟩ q
theorem lx_nam_e {t : Nat → Nat} {M p : Nat} {ns : List (List Nat)} (hp : p < M) (hM : M ≤ 8192) (hn : lx_np (t p) = true) (hJ : lx_J t M p ns) (h : (lx_nam t M p ns).1.1 ≠ 45) : ∃ v, (lx_nam t M p ns).1 = (min v 41, v, lx_ne t M p) ∧ v < (lx_nam t M p ns).2.length ∧ v < 4171 ∧ p < lx_ne t M p ∧ lx_ne t M p ≤ M ∧ lx_J t M (lx_ne t M p) (lx_nam t M p ns).2 ∧ (lx_nam t M p ns).2[v]? = some (nt_w t p (lx_ne t M p)) := by
  have b := lx_neB (t := t) (M := M) (p := p)
  have b1 : p < lx_ne t M p := by rw [lx_ne_u, if_pos ⟨hp, hn⟩]; exact lx_neB.1
  have hend := lx_ne_end (t := t) (M := M) _ p rfl
  obtain ⟨j1, j2, j3, j4, j5⟩ := hJ
  have j3 := j3 (by rw [show lx_i t M p = (t p : Int) from if_pos hp]; exact hn)
  have nt := nt_w_len (t := t) (a := p) (e := lx_ne t M p)
  unfold lx_nam at *
  by_cases q : 32 < lx_ne t M p - p
  · rw [if_pos q] at h; exact absurd rfl h
  · rw [if_neg q] at h ⊢
    by_cases w : nt_w t p (lx_ne t M p) ∈ ns
    · rw [if_pos w]
      have hlt := List.idxOf_lt_length_of_mem w
      have hJ' : lx_J t M (lx_ne t M p) ns := ⟨j1, by omega, fun z => (by rw [hend] at z; cases z), by omega, j5⟩
      refine ⟨_, rfl, hlt, by omega, b1, b.2 (by omega), hJ', ?_⟩
      rw [List.getElem?_eq_getElem hlt, List.getElem_idxOf hlt]
    · rw [if_neg w]
      refine ⟨_, rfl, by rw [List.length_append, List.length_singleton]; omega, by omega, b1, b.2 (by omega), ⟨?_, ?_, fun z => (by rw [hend] at z; cases z), ?_, ?_⟩, ?_⟩
      · exact List.nodup_append.mpr ⟨j1, by simp, fun a ha b hb => by rw [List.mem_singleton.mp hb]; exact fun z => w (z ▸ ha)⟩
      · rw [List.length_append, List.length_singleton]; omega
      · rw [List.flatten_append, List.length_append]
        show _ + ([nt_w t p (lx_ne t M p)] : List (List Nat)).flatten.length ≤ _
        rw [List.flatten_cons, List.flatten_nil, List.append_nil, nt]
        omega
      · exact j5.trans (List.prefix_append _ _)
      · rw [List.getElem?_append_right (Nat.le_refl _), Nat.sub_self]; rfl
/-- a token's end -/
theorem lx_tok_e {t : Nat → Nat} {M p : Nat} {ns : List (List Nat)} (hM : M ≤ 8192) (hp : p ≤ M) (hJ : lx_J t M p ns) (h : (lx_tok t M p ns).1.1 ≠ 45) (h4 : (lx_tok t M p ns).1.1 ≠ 44) : p < (lx_tok t M p ns).1.2.2 ∧ (lx_tok t M p ns).1.2.2 ≤ M ∧ lx_J t M (lx_tok t M p ns).1.2.2 (lx_tok t M p ns).2 ∧ (lx_tok t M p ns).1.1 ≤ 68 ∧ (lx_tok t M p ns).1.1 ≠ 46 ∧ (lx_tok t M p ns).1.2.1 ≤ 2147483647 := by
  unfold lx_tok at *
  by_cases h1 : M ≤ p
  · rw [if_pos h1] at h4; exact absurd rfl h4
  rw [if_neg h1] at h h4 ⊢
  by_cases h2 : (t p = 84 ∨ t p = 116) ∧ lx_i t M (p + 1) = 35
  · rw [if_pos h2] at h h4 ⊢
    have := lx_i_in (t := t) (M := M) (p := p + 1) (by rw [h2.2]; decide)
    obtain ⟨v, e, g1, g2, g3, g4⟩ := lx_tim_e this h
    rw [g1]
    exact ⟨g3, g4, lx_J_sk hJ (Nat.le_of_lt g3), by show 42 ≤ 68; omega, by show 42 ≠ 46; omega, g2⟩
  rw [if_neg h2] at h h4 ⊢
  by_cases h3 : lx_dg (t p) = true
  · rw [if_pos h3] at h h4 ⊢
    obtain ⟨v, e, g1, g2, g3, g4⟩ := lx_num_e (by omega) h3 h
    rw [g1]
    exact ⟨g3, g4, lx_J_sk hJ (Nat.le_of_lt g3), by show 42 ≤ 68; omega, by show 42 ≠ 46; omega, g2⟩
  rw [if_neg h3] at h h4 ⊢
  by_cases h5 : lx_np (t p) = true
  · rw [if_pos h5] at h h4 ⊢
    obtain ⟨v, g1, g2, g3, g4, g5, g6, _⟩ := lx_nam_e (by omega) hM h5 hJ h
    rw [g1]
    refine ⟨g4, g5, g6, ?_, ?_, ?_⟩
    · show min v 41 ≤ 68; omega
    · show min v 41 ≠ 46; omega
    · show v ≤ 2147483647; omega
  rw [if_neg h5] at h h4 ⊢
  by_cases h6 : t p = 37
  · rw [if_pos h6] at h h4 ⊢
    obtain ⟨v, e, g1, g2, g3, g4⟩ := lx_pla_e h
    rw [g1]
    exact ⟨g3, g4, lx_J_sk hJ (Nat.le_of_lt g3), by show 43 ≤ 68; omega, by show 43 ≠ 46; omega, by show v ≤ _; omega⟩
  rw [if_neg h6] at h h4 ⊢
  obtain ⟨k, e, g1, g2, g3, g4⟩ := lx_sgn_e (by omega) h
  rw [g1]
  exact ⟨g3, g4, lx_J_sk hJ (Nat.le_of_lt g3), by show k ≤ 68; omega, by show k ≠ 46; omega, by show 0 ≤ _; omega⟩
theorem lx_nx_e {t : Nat → Nat} {M p : Nat} {ns : List (List Nat)} (hM : M ≤ 8192) (hp : p ≤ M) (hJ : lx_J t M p ns) (h : (lx_nx t M (p, ns)).2.1.1 ≠ 45) (h4 : (lx_nx t M (p, ns)).2.1.1 ≠ 44) : p < (lx_nx t M (p, ns)).2.1.2.2 ∧ (lx_nx t M (p, ns)).2.1.2.2 ≤ M ∧ lx_J t M (lx_nx t M (p, ns)).2.1.2.2 (lx_nx t M (p, ns)).2.2 ∧ (lx_nx t M (p, ns)).2.1.1 ≤ 68 ∧ (lx_nx t M (p, ns)).2.1.1 ≠ 46 ∧ (lx_nx t M (p, ns)).2.1.2.1 ≤ 2147483647 := by
  have sb := lx_sk_b (t := t) (M := M) (M + 1 - p) p hp
  have sb1 : p ≤ (lx_sk t M p).1 := sb.1
  have sb2 : (lx_sk t M p).1 ≤ M := sb.2
  unfold lx_nx at *
  by_cases q : (lx_sk t M p).2 = true
  · have e : (if (lx_sk t M (p, ns).1).2 = true then ((lx_sk t M (p, ns).1).1, lx_tok t M (lx_sk t M (p, ns).1).1 (p, ns).2) else ((lx_sk t M (p, ns).1).1, (45, 2, (lx_sk t M (p, ns).1).1), (p, ns).2)) = ((lx_sk t M p).1, lx_tok t M (lx_sk t M p).1 ns) := if_pos q
    rw [e] at h h4 ⊢
    obtain ⟨g1, g2⟩ := lx_tok_e hM sb2 (lx_J_sk hJ sb1) h h4
    exact ⟨Nat.lt_of_le_of_lt sb1 g1, g2⟩
  · have e : (if (lx_sk t M (p, ns).1).2 = true then ((lx_sk t M (p, ns).1).1, lx_tok t M (lx_sk t M (p, ns).1).1 (p, ns).2) else ((lx_sk t M (p, ns).1).1, (45, 2, (lx_sk t M (p, ns).1).1), (p, ns).2)) = ((lx_sk t M p).1, (45, 2, (lx_sk t M p).1), ns) := if_neg q
    rw [e] at h
    exact absurd rfl h
