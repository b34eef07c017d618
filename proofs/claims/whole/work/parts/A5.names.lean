/-! NAMES on both sides -/
theorem nq_tok {t : Nat → Nat} {M p : Nat} {ns : List (List Nat)} : ns <+: (lx_tok t M p ns).2 := by
  unfold lx_tok lx_nam
  repeat' split
  all_goals first | exact List.prefix_refl _ | exact List.prefix_append _ _
theorem nq_nx {t : Nat → Nat} {M : Nat} {s : Nat × List (List Nat)} : s.2 <+: (lx_nx t M s).2.2 := by
  unfold lx_nx
  split
  · exact nq_tok
  · exact List.prefix_refl _
theorem nq_mono {t : Nat → Nat} {M : Nat} : ∀ (d j : Nat), (lx_at t M lx_ns j).2 <+: (lx_at t M lx_ns (j + d)).2
  | 0, j => List.prefix_refl _
  | d + 1, j => List.IsPrefix.trans (nq_mono d j) (nq_nx (s := lx_at t M lx_ns (j + d)))
theorem nq_get {l m : List (List Nat)} (h : l <+: m) {i : Nat} {w : List Nat} (hi : l[i]? = some w) : m[i]? = some w := by
  obtain ⟨r, e⟩ := h
  have hl : i < l.length := by
    rcases Nat.lt_or_ge i l.length with y | y
    · exact y
    · rw [List.getElem?_eq_none y] at hi; cases hi
  rw [← e, List.getElem?_append_left hl]
  exact hi
theorem nq_w {t : Nat → Nat} {M j : Nat} (hM : M ≤ 8192) (hb : lx_b t M j) (h : lx_k t M lx_ns j = 41) : (lx_at t M lx_ns (j + 1)).2[lx_v t M lx_ns j]? = some (rq_w t M j) ∧ 41 ≤ lx_v t M lx_ns j := by
  obtain ⟨g1, g2, g3, g4, g5⟩ := rq_41 hM hb (by omega)
  have e1 : (lx_at t M lx_ns (j + 1)).2 = (lx_nx t M (lx_at t M lx_ns j)).2.2 := rfl
  have e2 : lx_v t M lx_ns j = (lx_nx t M (lx_at t M lx_ns j)).2.1.2.1 := rfl
  have e3 : lx_k t M lx_ns j = (lx_nx t M (lx_at t M lx_ns j)).2.1.1 := rfl
  have e4 : rq_w t M j = nt_w t (lx_p t M lx_ns j) (lx_ne t M (lx_p t M lx_ns j)) := by unfold rq_w; rw [g4]
  rw [e3, g5] at h
  rw [e1, e2, e4, g5]
  generalize lx_p t M lx_ns j = p at *
  generalize (lx_at t M lx_ns j).2 = ns at *
  have h : (lx_nam t M p ns).1.1 = 41 := h
  show (lx_nam t M p ns).2[(lx_nam t M p ns).1.2.1]? = _ ∧ 41 ≤ (lx_nam t M p ns).1.2.1
  unfold lx_nam at h ⊢
  by_cases q1 : 32 < lx_ne t M p - p
  · rw [if_pos q1] at h; exact absurd h (by decide : ¬ (45 : Nat) = 41)
  · rw [if_neg q1] at h ⊢
    by_cases q2 : nt_w t p (lx_ne t M p) ∈ ns
    · rw [if_pos q2] at h ⊢
      have h : min (ns.idxOf (nt_w t p (lx_ne t M p))) 41 = 41 := h
      refine ⟨?_, by show 41 ≤ ns.idxOf _; omega⟩
      show ns[ns.idxOf (nt_w t p (lx_ne t M p))]? = _
      have hlt : ns.idxOf (nt_w t p (lx_ne t M p)) < ns.length := List.idxOf_lt_length_of_mem q2
      rw [List.getElem?_eq_getElem hlt, List.getElem_idxOf hlt]
    · rw [if_neg q2] at h ⊢
      have h : min ns.length 41 = 41 := h
      refine ⟨?_, by show 41 ≤ ns.length; omega⟩
      show (ns ++ [nt_w t p (lx_ne t M p)])[ns.length]? = _
      rw [List.getElem?_append_right (Nat.le_refl _), Nat.sub_self]
      rfl
/-- the class's numbers tell words apart -/
theorem nq_lx {t : Nat → Nat} {M j k : Nat} (hM : M ≤ 8192) (hj : lx_b t M (j + 1)) (hk : lx_b t M (k + 1)) (h1 : lx_k t M lx_ns j = 41) (h2 : lx_k t M lx_ns k = 41) : lx_v t M lx_ns j = lx_v t M lx_ns k ↔ rq_w t M j = rq_w t M k := by
  have key : ∀ (j k : Nat), lx_b t M (j + 1) → lx_b t M (k + 1) → lx_k t M lx_ns j = 41 → lx_k t M lx_ns k = 41 → j ≤ k → (lx_v t M lx_ns j = lx_v t M lx_ns k ↔ rq_w t M j = rq_w t M k) := by
    intro j k hj hk h1 h2 hle
    have w1 := (nq_w hM (fun i hi => hj i (by omega)) h1).1
    have w2 := (nq_w hM (fun i hi => hk i (by omega)) h2).1
    have hp := nq_mono (t := t) (M := M) (k - j) (j + 1)
    rw [show j + 1 + (k - j) = k + 1 by omega] at hp
    have w3 := nq_get hp w1
    have nd := (lx_at_J hM (k + 1) hk).1.1
    constructor
    · intro e
      rw [e, w2] at w3
      exact (Option.some.inj w3).symm
    · intro e
      rw [e] at w3
      have l3 : lx_v t M lx_ns j < (lx_at t M lx_ns (k + 1)).2.length := by
        rcases Nat.lt_or_ge (lx_v t M lx_ns j) (lx_at t M lx_ns (k + 1)).2.length with y | y
        · exact y
        · rw [List.getElem?_eq_none y] at w3; cases w3
      exact (List.getElem?_inj l3 nd).mp (w3.trans w2.symm)
  rcases Nat.le_total j k with y | y
  · exact key j k hj hk h1 h2 y
  · have := key k j hk hj h2 h1 y
    exact ⟨fun e => (this.mp e.symm).symm, fun e => (this.mpr e.symm).symm⟩
/-- the reference's too -/
theorem nq_pm {t : Nat → Nat} {M : Nat} : ∀ (d j : Nat), rq_ps t M j <+: rq_ps t M (j + d)
  | 0, j => List.prefix_refl _
  | d + 1, j => by
    refine List.IsPrefix.trans (nq_pm d j) ?_
    show _ <+: rq_ps t M (j + d + 1)
    rw [rq_ps]
    split
    · exact List.prefix_append _ _
    · exact List.prefix_refl _
theorem nq_r {t : Nat → Nat} {M j : Nat} (hM : M ≤ 8192) (hj : lx_b t M (j + 1)) (h : lx_k t M lx_ns j = 41) : ∃ p, (rq_ps t M (j + 1))[rq_v t M j]? = some p ∧ rx_wd t p = rq_w t M j := by
  have hb : lx_b t M j := fun i hi => hj i (by omega)
  have ev : rq_v t M j = rq_ix t (rq_ps t M (j + 1)) (rq_w t M j) := by unfold rq_v; rw [if_pos h]
  have ex : ∃ p ∈ rq_ps t M (j + 1), rx_wd t p = rq_w t M j := by
    cases q : rq_h t (rq_ps t M j) (rq_w t M j) with
    | true =>
      unfold rq_h at q
      rw [List.any_eq_true] at q
      obtain ⟨p, hp, e⟩ := q
      refine ⟨p, ?_, of_decide_eq_true e⟩
      exact (nq_pm 1 j).subset hp
    | false =>
      refine ⟨_, ?_, rq_wdj hM hb h⟩
      rw [rq_ps, if_pos ⟨h, q⟩]
      exact List.mem_append_right _ (List.mem_singleton.mpr rfl)
  obtain ⟨p, hp, e⟩ := ex
  obtain ⟨i, hi⟩ := List.getElem?_of_mem hp
  have := rq_i (rq_Db hM (j + 1) hj) hi e
  exact ⟨p, by rw [ev, this]; exact hi, e⟩
theorem nq_rv {t : Nat → Nat} {M j k : Nat} (hM : M ≤ 8192) (hj : lx_b t M (j + 1)) (hk : lx_b t M (k + 1)) (h1 : lx_k t M lx_ns j = 41) (h2 : lx_k t M lx_ns k = 41) : rq_v t M j = rq_v t M k ↔ rq_w t M j = rq_w t M k := by
  have gp : ∀ {l m : List (Nat × Nat)} (h : l <+: m) {i : Nat} {w : Nat × Nat} (hi : l[i]? = some w), m[i]? = some w := fun {l m} h {i w} hi => by
    obtain ⟨r, e⟩ := h
    have hl : i < l.length := by
      rcases Nat.lt_or_ge i l.length with y | y
      · exact y
      · rw [List.getElem?_eq_none y] at hi; cases hi
    rw [← e, List.getElem?_append_left hl]
    exact hi
  have key : ∀ (j k : Nat), lx_b t M (j + 1) → lx_b t M (k + 1) → lx_k t M lx_ns j = 41 → lx_k t M lx_ns k = 41 → j ≤ k → (rq_v t M j = rq_v t M k ↔ rq_w t M j = rq_w t M k) := by
    intro j k hj hk h1 h2 hle
    obtain ⟨p, p1, p2⟩ := nq_r hM hj h1
    obtain ⟨q, q1, q2⟩ := nq_r hM hk h2
    have hp := nq_pm (t := t) (M := M) (k - j) (j + 1)
    rw [show j + 1 + (k - j) = k + 1 by omega] at hp
    have p3 := gp hp p1
    constructor
    · intro e
      rw [e, q1] at p3
      rw [← p2, ← q2, Option.some.inj p3]
    · intro e
      exact rq_Db hM (k + 1) hk _ _ _ _ p3 q1 (by rw [p2, q2, e])
  rcases Nat.le_total j k with y | y
  · exact key j k hj hk h1 h2 y
  · have := key k j hk hj h2 h1 y
    exact ⟨fun e => (this.mp e.symm).symm, fun e => (this.mpr e.symm).symm⟩
/-- a name's number in the class, and in the reference -/
def nq_R (t : Nat → Nat) (M n : Nat) (v r : Int32) : Prop := ∃ j, j < n ∧ lx_k t M lx_ns j = 41 ∧ v = nI (lx_v t M lx_ns j) ∧ r = nI (rq_v t M j)
theorem nq_b {t : Nat → Nat} {M n j : Nat} (hN : rp_n t M n) (hj : j < n) (h : lx_k t M lx_ns j = 41) : lx_b t M (j + 1) := fun i hi => by
  have : j ≠ n - 1 := fun e => by
    rcases hN.2.2.2.2 with y | y
    · rw [← e, h] at y; exact absurd y (by decide)
    · rw [← e, h] at y; exact absurd y (by decide)
  exact hN.2.1 i (by omega)
theorem nq_lv {t : Nat → Nat} {M n j : Nat} (hN : rp_n t M n) (hj : j < n) (h : lx_k t M lx_ns j = 41) : lx_v t M lx_ns j < 2 ^ 30 ∧ rq_v t M j < 2 ^ 30 := by
  have hb := nq_b hN hj h
  have w := (nq_w hN.1 (fun i hi => hb i (by omega)) h).1
  have J := (lx_at_J hN.1 (j + 1) hb)
  have l3 : lx_v t M lx_ns j < (lx_at t M lx_ns (j + 1)).2.length := by
    rcases Nat.lt_or_ge (lx_v t M lx_ns j) (lx_at t M lx_ns (j + 1)).2.length with y | y
    · exact y
    · rw [List.getElem?_eq_none y] at w; cases w
  have b1 := J.1.2.1
  have b2 := J.2.2
  have b3 := hN.1
  obtain ⟨p, p1, _⟩ := nq_r hN.1 hb h
  have l4 : rq_v t M j < (rq_ps t M (j + 1)).length := by
    rcases Nat.lt_or_ge (rq_v t M j) (rq_ps t M (j + 1)).length with y | y
    · exact y
    · rw [List.getElem?_eq_none y] at p1; cases p1
  have b4 := (rq_J hN.1 (j + 1) hb).1
  omega
theorem nq_eq {t : Nat → Nat} {M n : Nat} {v r v' r' : Int32} (hN : rp_n t M n) (h : nq_R t M n v r) (h' : nq_R t M n v' r') : v = v' ↔ r = r' := by
  obtain ⟨j, j1, j2, j3, j4⟩ := h
  obtain ⟨k, k1, k2, k3, k4⟩ := h'
  have b1 := nq_b hN j1 j2
  have b2 := nq_b hN k1 k2
  have l1 := nq_lv hN j1 j2
  have l2 := nq_lv hN k1 k2
  rw [j3, j4, k3, k4]
  have e1 := nq_lx hN.1 b1 b2 j2 k2
  have e2 := nq_rv hN.1 b1 b2 j2 k2
  constructor
  · intro e
    rw [e2.mpr (e1.mp (hp_inj (by omega) (by omega) e))]
  · intro e
    rw [e1.mpr (e2.mp (hp_inj (by omega) (by omega) e))]
