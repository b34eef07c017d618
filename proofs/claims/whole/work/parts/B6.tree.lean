/-! THE LIST OF NODES: what it keeps; children by shape -/
def nv_k (NN k : Nat) (v : Int32) : Prop := k ≤ 36 ∧ (rp_nk k = true → 41 ≤ v.toInt ∧ v.toInt < NN) ∧ (k = 4 ∨ k = 8 → ∃ g, g ≤ 2 ∧ v = nI g) ∧ (k = 35 → ∃ g, g ≤ 13 ∧ v = nI g) ∧ (k = 36 → v = 0 ∨ v = 1) ∧ (k = 25 ∨ k = 28 → ∃ g, g ≤ 3 ∧ v = nI g) ∧ (k = 7 → ∃ a o, a < 6 ∧ o < 256 ∧ (3 ≤ a → o < 64) ∧ v = nI (256 * a + o))
def lg_G (l : List pg_N) (NN : Nat) : Prop := tz_w l ∧ rl_z l 0 = l.length ∧ 0 < l.length ∧ l.length ≤ 16386 ∧ sh_g l ∧ ∀ i, i < l.length → nv_k NN (rl_k l i) (rl_v l i)
theorem sh_at {l : List pg_N} (hw : tz_w l) (hg : sh_g l) {i : Nat} (hi : i < l.length) : sh_S (rl_k l i) ((rl_c l i).map (rl_k l)) := by
  have h := hg.2 i _ (rl_xg hi)
  have hz := rl_zc hw hi
  have hm : (l.map sh_p).map (·.1) = l := by rw [List.map_map]; exact List.map_id'' (fun _ => rfl) l
  have e := rl_tch (L := l.map sh_p) hm l.length (i + 1) (i + rl_z l i) hz.2 (rl_cli hw hi) (by omega)
  have e2 : i + rl_z l i - (i + 1) = (rl_x l i).2.2.2 - 1 := by show _ = rl_z l i - 1; omega
  rw [e2] at e
  unfold sh_t at h
  rw [List.map_take, List.map_drop, e] at h
  have e3 : (rl_ch l l.length (i + 1) (i + rl_z l i)).map (rl_a (l.map sh_p)) = (rl_c l i).map (rl_k l) := by
    apply List.map_congr_left
    intro c hc
    have hcl : c < l.length := by have := rl_cm hc; omega
    unfold rl_a rl_k rl_x
    rw [List.getD_eq_getElem?_getD, List.getD_eq_getElem?_getD, List.getElem?_map, List.getElem?_eq_getElem hcl]
    rfl
  rw [e3] at h
  exact h
theorem lg_S {l : List pg_N} {NN i : Nat} (h : lg_G l NN) (hi : i < l.length) : sh_S (rl_k l i) ((rl_c l i).map (rl_k l)) := sh_at h.1 h.2.2.2.2.1 hi
theorem lg_V {l : List pg_N} {NN i : Nat} (h : lg_G l NN) (hi : i < l.length) : nv_k NN (rl_k l i) (rl_v l i) := h.2.2.2.2.2 i hi
/-- trees in a row: the first stands at s, the others behind it -/
theorem rl_chu {l : List pg_N} {f s e : Nat} : rl_ch l (f + 1) s e = if s < e then s :: rl_ch l f (s + rl_z l s) e else [] := rfl
theorem rl_chf {l : List pg_N} : ∀ (f g s e : Nat), rl_cl l s e → e - s ≤ f → e - s ≤ g → rl_ch l f s e = rl_ch l g s e
  | 0, 0, _, _, _, _, _ => rfl
  | 0, g + 1, s, e, _, h, _ => by rw [rl_chu, if_neg (by omega)]; rfl
  | f + 1, 0, s, e, _, _, h => by rw [rl_chu, if_neg (by omega)]; rfl
  | f + 1, g + 1, s, e, hc, h1, h2 => by
    rw [rl_chu, rl_chu]
    by_cases q : s < e
    · rw [if_pos q, if_pos q]
      obtain ⟨z1, z2⟩ := hc s (Nat.le_refl _) q
      rw [rl_chf f g (s + rl_z l s) e (fun d h1 h2 => hc d (by omega) h2) (by omega) (by omega)]
    · rw [if_neg q, if_neg q]
/-- the trees from s to e, with no counter -/
def rl_row (l : List pg_N) (s e : Nat) : List Nat := rl_ch l l.length s e
theorem rl_rowu {l : List pg_N} {s e : Nat} (he : e ≤ l.length) (hc : rl_cl l s e) (q : s < e) : rl_row l s e = s :: rl_row l (s + rl_z l s) e := by
  obtain ⟨z1, z2⟩ := hc s (Nat.le_refl _) q
  unfold rl_row
  have e1 : l.length = (l.length - 1) + 1 := by omega
  conv => lhs; rw [e1, rl_chu, if_pos q]
  rw [rl_chf (l.length - 1) l.length (s + rl_z l s) e (fun d h1 h2 => hc d (by omega) h2) (by omega) (by omega)]
theorem rl_row0 {l : List pg_N} {s e : Nat} (q : ¬ s < e) : rl_row l s e = [] := by
  unfold rl_row
  cases l.length with
  | zero => rfl
  | succ n => rw [rl_chu, if_neg q]
theorem rl_clz {l : List pg_N} {s e : Nat} (hc : rl_cl l s e) (q : s < e) : s + rl_z l s ≤ e ∧ s < s + rl_z l s ∧ rl_cl l (s + rl_z l s) e := by
  obtain ⟨z1, z2⟩ := hc s (Nat.le_refl _) q
  exact ⟨z2, by omega, fun d h1 h2 => hc d (by omega) h2⟩
theorem rl_crow {l : List pg_N} {i : Nat} : rl_c l i = rl_row l (i + 1) (i + rl_z l i) := rfl
/-- a row whose kinds are known -/
theorem rl_rw0 {l : List pg_N} {s e : Nat} (he : e ≤ l.length) (hc : rl_cl l s e) (h : (rl_row l s e).map (rl_k l) = []) (hs : s ≤ e) : s = e := by
  rcases Nat.lt_or_ge s e with q | q
  · rw [rl_rowu he hc q] at h; cases h
  · omega
theorem rl_rwc {l : List pg_N} {s e a : Nat} {w : List Nat} (he : e ≤ l.length) (hc : rl_cl l s e) (h : (rl_row l s e).map (rl_k l) = a :: w) : s < e ∧ rl_k l s = a ∧ rl_row l s e = s :: rl_row l (s + rl_z l s) e ∧ (rl_row l (s + rl_z l s) e).map (rl_k l) = w ∧ s + rl_z l s ≤ e ∧ s < s + rl_z l s ∧ rl_cl l (s + rl_z l s) e := by
  rcases Nat.lt_or_ge s e with q | q
  · have e1 := rl_rowu he hc q
    rw [e1, List.map_cons] at h
    injection h with h1 h2
    obtain ⟨c1, c2, c3⟩ := rl_clz hc q
    exact ⟨q, h1, e1, h2, c1, c2, c3⟩
  · rw [rl_row0 (by omega)] at h; cases h
section LGC
variable {l : List pg_N} {NN i : Nat}
theorem lg_cl (hG : lg_G l NN) (hi : i < l.length) : i + rl_z l i ≤ l.length ∧ 1 ≤ rl_z l i ∧ rl_cl l (i + 1) (i + rl_z l i) := ⟨(rl_zc hG.1 hi).2, (rl_zc hG.1 hi).1, rl_cli hG.1 hi⟩
/-- no children -/
theorem lg_0 (hG : lg_G l NN) (hi : i < l.length) (h : (rl_c l i).map (rl_k l) = []) : rl_z l i = 1 ∧ rl_c l i = [] := by
  obtain ⟨z1, z2, z3⟩ := lg_cl hG hi
  have := rl_rw0 z1 z3 h (by omega)
  exact ⟨by omega, List.map_eq_nil_iff.mp h⟩
/-- one child -/
theorem lg_1 (hG : lg_G l NN) (hi : i < l.length) {a : Nat} (h : (rl_c l i).map (rl_k l) = [a]) : i + 1 < l.length ∧ rl_c l i = [i + 1] ∧ rl_k l (i + 1) = a ∧ i + 1 + rl_z l (i + 1) = i + rl_z l i := by
  obtain ⟨z1, z2, z3⟩ := lg_cl hG hi
  obtain ⟨a1, a2, a3, a4, a5, a6, a7⟩ := rl_rwc z1 z3 h
  have := rl_rw0 z1 a7 a4 a5
  refine ⟨by omega, ?_, a2, this⟩
  rw [rl_crow, a3, List.map_eq_nil_iff.mp a4]
/-- two children -/
theorem lg_2 (hG : lg_G l NN) (hi : i < l.length) {a b : Nat} (h : (rl_c l i).map (rl_k l) = [a, b]) : i + 1 < l.length ∧ i + 1 + rl_z l (i + 1) < l.length ∧ rl_c l i = [i + 1, i + 1 + rl_z l (i + 1)] ∧ rl_k l (i + 1) = a ∧ rl_k l (i + 1 + rl_z l (i + 1)) = b ∧ i + 1 + rl_z l (i + 1) + rl_z l (i + 1 + rl_z l (i + 1)) = i + rl_z l i := by
  obtain ⟨z1, z2, z3⟩ := lg_cl hG hi
  obtain ⟨a1, a2, a3, a4, a5, a6, a7⟩ := rl_rwc z1 z3 h
  obtain ⟨b1, b2, b3, b4, b5, b6, b7⟩ := rl_rwc z1 a7 a4
  have := rl_rw0 z1 b7 b4 b5
  refine ⟨by omega, by omega, ?_, a2, b2, this⟩
  rw [rl_crow, a3, b3, List.map_eq_nil_iff.mp b4]
/-- first child -/
theorem lg_h (hG : lg_G l NN) (hi : i < l.length) {a : Nat} {w : List Nat} (h : (rl_c l i).map (rl_k l) = a :: w) : i + 1 < l.length ∧ i + 1 < i + rl_z l i ∧ rl_k l (i + 1) = a ∧ i + 1 ∈ rl_c l i ∧ (rl_row l (i + 1 + rl_z l (i + 1)) (i + rl_z l i)).map (rl_k l) = w := by
  obtain ⟨z1, z2, z3⟩ := lg_cl hG hi
  obtain ⟨a1, a2, a3, a4, a5, a6, a7⟩ := rl_rwc z1 z3 h
  refine ⟨by omega, a1, a2, ?_, a4⟩
  rw [rl_crow, a3]
  exact List.mem_cons_self ..
/-- leaves by their kinds -/
theorem lg_leaf (hG : lg_G l NN) (hi : i < l.length) (hk : rl_k l i = 6 ∨ rl_k l i = 7 ∨ rl_k l i = 8 ∨ rl_k l i = 10 ∨ rl_k l i = 30 ∨ rl_k l i = 31) : rl_z l i = 1 := by
  have h := lg_S hG hi
  refine (lg_0 hG hi ?_).1
  rcases hk with q | q | q | q | q | q <;> (rw [q] at h; exact h)
end LGC
theorem rl_upc' {l : List pg_N} {NN i c : Nat} (hG : lg_G l NN) (hi : i < l.length) (h : c ∈ rl_c l i) : (rl_up l c).head? = some i ∧ rl_par l c = i := by
  refine ⟨?_, rl_parc hG.1 hi h⟩
  rw [rl_upc hG.1 hi h]
  rfl
/-- every node but the first has a parent -/
theorem lg_par {l : List pg_N} {NN c : Nat} (hG : lg_G l NN) (hc : c < l.length) (hp : 0 < c) : rl_par l c < c ∧ c ∈ rl_c l (rl_par l c) ∧ (rl_up l c).head? = some (rl_par l c) := by
  obtain ⟨i, h1, h2⟩ := rl_isc hG.1 hG.2.1 hc hp
  obtain ⟨a, b⟩ := rl_upc' hG (by omega) h2
  rw [b]
  exact ⟨h1, h2, a⟩

