/-! THE WALK'S INVARIANT -/
def cB (l : List pg_N) (n : Nat) : Nat := ((List.range n).filter (fun j => decide (1 ≤ rl_k l j ∧ rl_k l j ≤ 3))).length
def cV (l : List pg_N) (n : Nat) : Nat := ((List.range n).filter (fun j => decide (rl_k l j = 1 ∨ rl_k l j = 6))).length
theorem cB_s (l : List pg_N) (n : Nat) : cB l (n + 1) = cB l n + (if 1 ≤ rl_k l n ∧ rl_k l n ≤ 3 then 1 else 0) := by
  unfold cB
  rw [List.range_succ, List.filter_append, List.length_append]
  by_cases q : 1 ≤ rl_k l n ∧ rl_k l n ≤ 3
  · rw [if_pos q, List.filter_cons_of_pos (by simpa using q)]; rfl
  · rw [if_neg q, List.filter_cons_of_neg (by simpa using q)]; rfl
theorem cV_s (l : List pg_N) (n : Nat) : cV l (n + 1) = cV l n + (if rl_k l n = 1 ∨ rl_k l n = 6 then 1 else 0) := by
  unfold cV
  rw [List.range_succ, List.filter_append, List.length_append]
  by_cases q : rl_k l n = 1 ∨ rl_k l n = 6
  · rw [if_pos q, List.filter_cons_of_pos (by simpa using q)]; rfl
  · rw [if_neg q, List.filter_cons_of_neg (by simpa using q)]; rfl
theorem cB_m (l : List pg_N) (n : Nat) : ∀ d, cB l n ≤ cB l (n + d)
  | 0 => Nat.le_refl _
  | d + 1 => by rw [← Nat.add_assoc, cB_s]; have := cB_m l n d; omega
theorem cV_m (l : List pg_N) (n : Nat) : ∀ d, cV l n ≤ cV l (n + d)
  | 0 => Nat.le_refl _
  | d + 1 => by rw [← Nat.add_assoc, cV_s]; have := cV_m l n d; omega
def lg_C (l : List pg_N) : Prop := cB l l.length ≤ 409 ∧ cV l l.length ≤ 4096
/-- unsettled: those of the declaration dn whose names stand before pos -/
def pi_Un (l : List pg_N) (vs : List rl_V) (dn pos : Nat) : Prop := ∀ m hp y cs, lg_D l dn m hp y cs → min m (pos - dn - 1) ≤ vs.length ∧ (∀ (k : Nat) (v : rl_V), k < min m (pos - dn - 1) → vs[k]? = some v → v.2.1 = 3 ∧ v.2.2.2.1 = (rl_v l (rl_par l dn)).toNatClampNeg ∧ v.2.2.2.2.1 = (if hp = true ∧ dn + m + 1 < pos then rl_v l (dn + m + 1) else -1)) ∧ ∀ (k : Nat) (v : rl_V), min m (pos - dn - 1) ≤ k → vs[k]? = some v → v.2.1 ≠ 3
def pi_U (l : List pg_N) (i nx : Nat) (vs : List rl_V) : Prop := (rl_k l i = 5 → pi_Un l vs i nx) ∧ (rl_k l (rl_par l i) = 5 → pi_Un l vs (rl_par l i) i) ∧ (rl_k l (rl_par l (rl_par l i)) = 5 → pi_Un l vs (rl_par l (rl_par l i)) (rl_par l i)) ∧ (rl_k l i ≠ 5 → rl_k l (rl_par l i) ≠ 5 → rl_k l (rl_par l (rl_par l i)) ≠ 5 → ∀ v ∈ vs, v.2.1 ≠ 3)
def pi_Y (l : List pg_N) (nx : Nat) (y : rl_B) : Prop := y.2.2.1 < nx ∧ rl_k l y.2.2.1 = y.1 ∧ rl_v l y.2.2.1 = y.2.1 ∧ (y.1 ≠ 3 → ∀ v ∈ y.2.2.2.2, v.2.2.2.2.1 = -1) ∧ y.2.2.2.1 ≤ 4252 + l.length
def pi_F (l : List pg_N) (B : List rl_B) (i nx : Nat) : Prop := ∀ j, (rl_hd B).2.2.1 < j → j < nx → j ≠ i → j ∉ rl_up l i → (rl_k l j = 9 → 1 ≤ rl_many l j ∧ rl_many l j ≤ 256) ∧ (rl_k l j = 10 → (rl_inst B (rl_v l j)).isSome = true)
def pi_B (l : List pg_N) (i nx : Nat) (B : List rl_B) : Prop :=
  pv_B B ∧ (∀ y ∈ B, pi_Y l nx y) ∧ (i = 0 → ∀ z, B.head? = some z → pv_D z) ∧ (i ≠ 0 → B ≠ [] ∧ ((rl_hd B).2.2.1 = i ∨ (rl_hd B).2.2.1 ∈ rl_up l i)) ∧
  pi_U l i nx (rl_hd B).2.2.2.2 ∧ B.length = cB l nx ∧ (cv_L B).length + (if rl_k l i = 6 then 1 else 0) ≤ 32 + cV l nx ∧
  (i ≠ 0 → ¬ (i = (rl_hd B).2.2.1 ∧ nx = i + rl_z l i) → (rl_hd B).2.2.2.1 ≤ 4096 + nx) ∧ pi_F l B i nx
def pi_I (l : List pg_N) (w : rl_W) : Prop := pi_G l w.1 w.2.1 ∧ (w.1 = none → w.2.1 = 0 → w.2.2.1 = []) ∧ ∀ i, w.1 = some i → pi_B l i w.2.1 w.2.2.1
/-! kinds around a declaration -/
theorem sh_lf {k x : Nat} (h : k = 6 ∨ k = 7 ∨ k = 8 ∨ k = 10 ∨ k = 30 ∨ k = 31) : sh_r k x = false := by
  rcases h with q | q | q | q | q | q <;> (rw [q]; rfl)
section KND
variable {l : List pg_N} {NN i : Nat}
theorem lg_k0 (hG : lg_G l NN) (hi : i < l.length) (h : rl_k l i = 0) : i = 0 := by
  rcases Nat.eq_zero_or_pos i with w | w
  · exact w
  · exfalso
    have p := (lg_par hG hi w).1
    exact sh_k0 _ (by have := (lg_V hG (show rl_par l i < l.length by omega)).1; omega) _ (by have := (lg_V hG hi).1; omega) (lg_Rp hG hi w) h
theorem lg_p0 (h0r : rl_k l 0 = 0) (h : rl_k l (rl_par l i) ≠ 0) : 0 < i := by
  rcases Nat.eq_zero_or_pos i with w | w
  · rw [w] at h; exact absurd h0r h
  · exact w
theorem lg_b0 (hG : lg_G l NN) (hi : i < l.length) (h0 : 0 < i) (h : 1 ≤ rl_k l i ∧ rl_k l i ≤ 3) : rl_par l i = 0 := by
  have p := (lg_par hG hi h0).1
  have hp : rl_par l i < l.length := by omega
  exact lg_k0 hG hp (sh_kb _ (by have := (lg_V hG hp).1; omega) _ (by have := (lg_V hG hi).1; omega) (lg_Rp hG hi h0) h.1 h.2)
theorem lg_n5 (hG : lg_G l NN) (h0r : rl_k l 0 = 0) (hi : i < l.length) (h : rl_k l (rl_par l i) = 5) : 0 < i ∧ ((6 ≤ rl_k l i ∧ rl_k l i ≤ 10) ∨ rl_k l i = 30 ∨ rl_k l i = 31) := by
  have i0 : 0 < i := lg_p0 h0r (by omega)
  have hR := lg_Rp hG hi i0
  rw [h] at hR
  exact ⟨i0, sh_kd5 hR⟩
theorem lg_n55 (hG : lg_G l NN) (h0r : rl_k l 0 = 0) (hi : i < l.length) (h : rl_k l (rl_par l (rl_par l i)) = 5) : 0 < i ∧ rl_k l (rl_par l i) = 9 ∧ (rl_k l i = 8 ∨ rl_k l i = 30 ∨ rl_k l i = 31) := by
  have i0 : 0 < i := by
    rcases Nat.eq_zero_or_pos i with w | w
    · rw [w] at h
      have : rl_k l 0 = 5 := h
      omega
    · exact w
  have p := (lg_par hG hi i0).1
  have hp : rl_par l i < l.length := by omega
  obtain ⟨_, k1⟩ := lg_n5 hG h0r hp h
  have hR := lg_Rp hG hi i0
  have k9 : rl_k l (rl_par l i) = 9 := by
    rcases Classical.em (rl_k l (rl_par l i) = 9) with w | w
    · exact w
    · rw [sh_lf (by omega)] at hR; cases hR
  rw [k9] at hR
  exact ⟨i0, k9, sh_kd9 9 (by decide) _ (by have := (lg_V hG hi).1; omega) hR rfl⟩
end KND
/-! what follows for the rules -/
theorem pi_cvl {B : List rl_B} (hB : B ≠ []) : (rl_hd B).2.2.2.2.length + 32 ≤ (cv_L B).length := by
  have p32 : ∀ r : List rl_B, 32 ≤ (cv_L r).length := by
    intro r
    induction r with
    | nil => exact Nat.le_refl 32
    | cons y r ih =>
      show 32 ≤ (cv_L r ++ _).length
      rw [List.length_append]; omega
  cases B with
  | nil => exact absurd rfl hB
  | cons y r =>
    show y.2.2.2.2.length + 32 ≤ (cv_L r ++ y.2.2.2.2.reverse.map _).length
    rw [List.length_append, List.length_map, List.length_reverse]
    have := p32 r
    omega
theorem rl_hdm {B : List rl_B} (hB : B ≠ []) : rl_hd B ∈ B := by
  cases B with
  | nil => exact absurd rfl hB
  | cons y r => exact List.mem_cons_self ..
theorem pi_Ec {l : List pg_N} {NN : Nat} (hG : lg_G l NN) (h0r : rl_k l 0 = 0) (hC : lg_C l) (w : rl_W) (hI : pi_I l w) (hn : w.2.1 < rl_end l w.1) : cx_E l w.2.2 w.2.1 := by
  obtain ⟨o, nx, A⟩ := w
  obtain ⟨gG, g0, gB⟩ := hI
  dsimp only at gG g0 gB hn ⊢
  obtain ⟨q1, q2, _, _⟩ := pi_in hG gG hn
  cases o with
  | none =>
    have hn : nx < l.length := hn
    have gG : nx = 0 ∨ nx = l.length := gG
    have e0 : nx = 0 := by omega
    subst e0
    refine ⟨fun _ z => absurd h0r z, fun z => ?_, fun z => ?_, fun z => ?_⟩ <;> omega
  | some i =>
    obtain ⟨b1, b2, b3, b4, b5, b6, b7, b8, b9⟩ := gB i rfl
    obtain ⟨c1, c2, c3, c4⟩ := gG
    have nc := c4 hn
    have pp := (rl_upc' hG c1 nc).2
    have hR := lg_R hG c1 nc
    have kn := (lg_V hG q1).1
    have ki := (lg_V hG c1).1
    have cb := cB_s l nx
    have cv := cV_s l nx
    have mb := cB_m l (nx + 1) (l.length - (nx + 1))
    have mv := cV_m l (nx + 1) (l.length - (nx + 1))
    rw [show nx + 1 + (l.length - (nx + 1)) = l.length by omega] at mb mv
    have k6 : ¬ rl_k l i = 6 := fun z => by rw [sh_lf (Or.inl z)] at hR; cases hR
    rw [if_neg k6] at b7
    refine ⟨fun h1 h2 => ?_, fun h1 => ?_, fun h1 => ?_, fun h1 h2 => ?_⟩
    · refine (b4 (fun z => ?_)).1
      rw [z, h0r] at hR
      exact h1 (of_decide_eq_true hR)
    · rw [if_pos h1] at cb
      have := hC.1
      omega
    · rw [if_pos (Or.inl h1)] at cv
      have := hC.2
      omega
    · by_cases hB : A.1 = []
      · intro v hv
        have hv : v ∈ (rl_hd A.1).2.2.2.2 := hv
        rw [hB] at hv
        exact absurd hv List.not_mem_nil
      · exact (b2 _ (rl_hdm hB)).2.2.2.1 h2
theorem pi_zz {l : List pg_N} {B : List rl_B} {y : Nat} (hk : rl_k l y = 8 ∨ rl_k l y = 9 ∨ rl_k l y = 10) (h9 : rl_k l y = 9 → 1 ≤ rl_many l y ∧ rl_many l y ≤ 256) (hc : ∀ z ∈ B, z.2.2.2.1 ≤ 4252 + l.length) : rl_zz l B y ≤ 4252 + l.length := by
  unfold rl_zz
  rcases hk with q | q | q
  · rw [if_pos q]; omega
  · rw [if_neg (by omega), if_pos q]
    have := h9 q
    omega
  · rw [if_neg (by omega), if_neg (by omega)]
    generalize (rl_inst B (rl_v l y)).getD 0 = t
    by_cases w : t < 9
    · rw [if_pos w]
      unfold rl_ssz
      by_cases u : t < 5
      · rw [if_pos u]; omega
      · rw [if_neg u]; omega
    · rw [if_neg w]
      cases e : rl_blk B (t - 9) with
      | none => show 0 ≤ _; omega
      | some z => exact hc z (List.mem_reverse.mp (List.mem_of_getElem? e))
theorem rl_upl {l : List pg_N} {i j : Nat} (h : j ∈ rl_up l i) : j < i := by
  unfold rl_up at h
  have := (List.mem_filter.mp h).1
  simpa using this
