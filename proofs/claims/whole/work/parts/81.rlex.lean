/-! NUMBERS of the reference -/
theorem sp205z {d : Nat} {σ : pm_S} {Q : Option Value → pm_S → Prop} {t : Nat → Nat} {M : Nat} {p : Nat} (hT : rx_T σ t M) (hp : p < 2 ^ 30) (hQ : Q (some (.int (lx_c t M p))) (rs σ p)) : pm_call pm_Y0 (d + 1) 205 [.ref 10, .int 0] (rs σ p) Q := sp205 (k := 0) hT hp hQ
def rx_v (t : Nat → Nat) (M b p : Nat) : Int64 := if lx_de t M b p = p then -1 else lN (min (lx_dv t M b p 0) 4000000000)
theorem rx_db {t : Nat → Nat} {M p b : Nat} (hb : b ≤ 16) : ((rx_d t M p).toInt < b ↔ p < M ∧ lx_dk (t p) < b) ∧ (p < M ∧ lx_dk (t p) < b → rx_d t M p = nI (lx_dk (t p))) := by
  unfold rx_d
  have := lx_dk_le (t p)
  by_cases h : p < M ∧ lx_dk (t p) < 16
  · rw [if_pos h, nI_toInt (by omega)]
    exact ⟨by omega, fun _ => rfl⟩
  · rw [if_neg h, show (99 : Int32).toInt = 99 from rfl]
    exact ⟨by omega, fun z => absurd z (by omega)⟩
theorem rx_dl {d : Nat} {σ : pm_S} {Q : Option Value → pm_S → Prop} {t : Nat → Nat} {M : Nat} {b : Nat} (hT : rx_T σ t M) (hb : 1 ≤ b ∧ b ≤ 16) : ∀ (n p x y : Nat), M - p = n → p ≤ M + 3 → min x 4000000000 = min y 4000000000 → Q (some (.long (lN (min (lx_dv t M b p y) 4000000000)))) (rs σ (lx_de t M b p)) → pm_WP pm_Y0 (pm_call pm_Y0 (d + 2)) 10 prog_14_method_17_code (some FieldType.long) Q 20 [.ref 10, .int (nI b), .long (lN (min x 4000000000)), pm_jk] [] (rs σ p) := by
  intro n
  induction n with
  | zero =>
    intro p x y hn hp hxy hQ
    have hM := hT.2.1
    have eb := nI_toInt (n := b) (by omega)
    have hd := rx_db (t := t) (M := M) (p := p) hb.2
    rw [lx_de_u, if_neg (by omega), lx_dv_u, if_neg (by omega), ← hxy] at hQ
    refine wq_l 21 d208_20 rfl rfl rfl rfl ?_
    refine wq_k 22 0 d208_21 (by decide) rfl ?_
    refine wq_v 25 [_] d208_22 rfl rfl m205 rfl rfl (Nat.le_of_ble_eq_true rfl) rfl (sp205z hT (by omega) ?_)
    refine wq_vs 28 [_] d208_25 rfl rfl m209 rfl (Nat.le_of_ble_eq_true rfl) rfl (sp209 hT.2.2.2 ?_)
    refine wq_l 29 d208_28 rfl rfl rfl rfl ?_
    refine wq_b 76 32 d208_29 rfl (by decide) rfl (fun c29 => ?_) (fun c29 => absurd ((by simp only [i_lt, i_le, i_eq, ne_eq, Int32.reduceToInt, b2_0, b2_1, decide_eq_true_eq, decide_eq_false_iff_not, Bool.not_eq_true, Bool.not_eq_false, eb] at * <;> omega)) c29)
    refine wq_l 77 d208_76 rfl rfl rfl rfl ?_
    refine wq_rl d208_77 ?_
    exact hQ
  | succ n ih =>
    intro p x y hn hp hxy hQ
    have hM := hT.2.1
    have eb := nI_toInt (n := b) (by omega)
    have hd := rx_db (t := t) (M := M) (p := p) hb.2
    have dk := lx_dk_le (t p)
    refine wq_l 21 d208_20 rfl rfl rfl rfl ?_
    refine wq_k 22 0 d208_21 (by decide) rfl ?_
    refine wq_v 25 [_] d208_22 rfl rfl m205 rfl rfl (Nat.le_of_ble_eq_true rfl) rfl (sp205z hT (by omega) ?_)
    refine wq_vs 28 [_] d208_25 rfl rfl m209 rfl (Nat.le_of_ble_eq_true rfl) rfl (sp209 hT.2.2.2 ?_)
    refine wq_l 29 d208_28 rfl rfl rfl rfl ?_
    refine wq_b 76 32 d208_29 rfl (by decide) rfl (fun c29 => ?_) (fun c29 => ?_)
    · -- pc 76
      have hlt : ¬ (p < M ∧ lx_dk (t p) < b) := fun z => by have := hd.1.mpr z; simp only [i_lt, i_le, i_eq, ne_eq, Int32.reduceToInt, b2_0, b2_1, decide_eq_true_eq, decide_eq_false_iff_not, Bool.not_eq_true, Bool.not_eq_false, eb] at c29; omega
      rw [lx_de_u, if_neg hlt, lx_dv_u, if_neg hlt, ← hxy] at hQ
      refine wq_l 77 d208_76 rfl rfl rfl rfl ?_
      exact wq_rl d208_77 hQ
    · -- pc 32
      have hlt : p < M ∧ lx_dk (t p) < b := hd.1.mp (by simp only [i_lt, i_le, i_eq, ne_eq, Int32.reduceToInt, b2_0, b2_1, decide_eq_true_eq, decide_eq_false_iff_not, Bool.not_eq_true, Bool.not_eq_false, eb] at * <;> omega)
      rw [lx_de_u, if_pos hlt, lx_dv_u, if_pos hlt] at hQ
      have hmul : min x 4000000000 * b ≤ 4000000000 * 16 := Nat.mul_le_mul (by omega) hb.2
      refine wq_l 33 d208_32 rfl rfl rfl rfl ?_
      refine wq_l 34 d208_33 rfl rfl rfl rfl ?_
      refine wq_a 35 d208_34 rfl rfl ?_
      refine wq_a 36 d208_35 rfl rfl ?_
      refine wq_l 37 d208_36 rfl rfl rfl rfl ?_
      refine wq_k 38 0 d208_37 (by decide) rfl ?_
      refine wq_v 41 [_] d208_38 rfl rfl m205 rfl rfl (Nat.le_of_ble_eq_true rfl) rfl (sp205z hT (by omega) ?_)
      refine wq_vs 44 [_] d208_41 rfl rfl m209 rfl (Nat.le_of_ble_eq_true rfl) rfl (sp209 hT.2.2.2 ?_)
      rw [hd.2 hlt]
      refine wq_a 45 d208_44 rfl rfl ?_
      refine wq_a 46 d208_45 rfl rfl ?_
      rw [nI_l (by omega), nI_l (by omega), lN_mul, lN_add]
      refine wq_s 47 d208_46 rfl rfl (Nat.le_of_ble_eq_true rfl) rfl rfl ?_
      refine wq_l 48 d208_47 rfl rfl rfl rfl ?_
      refine wq_cl 51 d208_48 rfl rfl ?_
      refine wq_a 52 d208_51 rfl rfl ?_
      refine wq_b 61 55 d208_52 rfl (by decide) rfl (fun c52 => ?_) (fun c52 => ?_)
      · -- pc 61
        refine wq_l 62 d208_61 rfl rfl rfl rfl ?_
        refine wq_s 63 d208_62 rfl rfl (Nat.le_of_ble_eq_true rfl) rfl rfl ?_
        have hv : ∀ z : Int64, z = (if lg_cmp (lN (min x 4000000000 * b + lx_dk (t p))) 4000000000 ≤ 0 then lN (min x 4000000000 * b + lx_dk (t p)) else 4000000000) → z = lN (min (min x 4000000000 * b + lx_dk (t p)) 4000000000) := fun z hz => by
          rw [hz]
          have e4 : (4000000000 : Int64).toInt = 4000000000 := rfl
          by_cases q : lg_cmp (lN (min x 4000000000 * b + lx_dk (t p))) 4000000000 ≤ 0
          · rw [if_pos q]
            rw [lc_le, lN_t (by omega), e4] at q
            congr 1
            omega
          · rw [if_neg q]
            rw [lc_le, lN_t (by omega), e4] at q
            rw [show (4000000000 : Int64) = lN 4000000000 from rfl]
            congr 1
            omega
        refine wq_l 64 d208_63 rfl rfl rfl rfl ?_
        refine wq_a 65 d208_64 rfl rfl ?_
        refine wq_gi (ci := 10) (j := 2) 68 d208_65 rfl rfl rfl rfl ?_
        rw [rs_2]
        refine wq_k 69 1 d208_68 (by decide) rfl ?_
        refine wq_a 70 d208_69 rfl rfl ?_
        refine wq_pf (ci := 10) (j := 2) 73 d208_70 rfl rfl rfl ⟨rfl, rfl⟩ rfl ?_
        rw [show nI p + 1 = nI (p + 1) from (nI_succ p).symm, rs_p]
        refine wq_g 20 d208_73 (by decide) ?_
        first
          | (have h9 := hv _ (if_pos c52).symm
             rw [h9]
             exact ih (p + 1) _ _ (by omega) (by omega) (lx_cut hb.1 hxy : min (min x 4000000000 * b + lx_dk (t p)) 4000000000 = _) hQ)
          | (have h9 := hv _ (if_neg c52).symm
             rw [show (4000000000 : Int64) = lN (min (min x 4000000000 * b + lx_dk (t p)) 4000000000) from h9]
             exact ih (p + 1) _ _ (by omega) (by omega) (lx_cut hb.1 hxy : min (min x 4000000000 * b + lx_dk (t p)) 4000000000 = _) hQ)
      · -- pc 55
        refine wq_cl 58 d208_55 rfl rfl ?_
        refine wq_g 62 d208_58 (by decide) ?_
        refine wq_s 63 d208_62 rfl rfl (Nat.le_of_ble_eq_true rfl) rfl rfl ?_
        have hv : ∀ z : Int64, z = (if lg_cmp (lN (min x 4000000000 * b + lx_dk (t p))) 4000000000 ≤ 0 then lN (min x 4000000000 * b + lx_dk (t p)) else 4000000000) → z = lN (min (min x 4000000000 * b + lx_dk (t p)) 4000000000) := fun z hz => by
          rw [hz]
          have e4 : (4000000000 : Int64).toInt = 4000000000 := rfl
          by_cases q : lg_cmp (lN (min x 4000000000 * b + lx_dk (t p))) 4000000000 ≤ 0
          · rw [if_pos q]
            rw [lc_le, lN_t (by omega), e4] at q
            congr 1
            omega
          · rw [if_neg q]
            rw [lc_le, lN_t (by omega), e4] at q
            rw [show (4000000000 : Int64) = lN 4000000000 from rfl]
            congr 1
            omega
        refine wq_l 64 d208_63 rfl rfl rfl rfl ?_
        refine wq_a 65 d208_64 rfl rfl ?_
        refine wq_gi (ci := 10) (j := 2) 68 d208_65 rfl rfl rfl rfl ?_
        rw [rs_2]
        refine wq_k 69 1 d208_68 (by decide) rfl ?_
        refine wq_a 70 d208_69 rfl rfl ?_
        refine wq_pf (ci := 10) (j := 2) 73 d208_70 rfl rfl rfl ⟨rfl, rfl⟩ rfl ?_
        rw [show nI p + 1 = nI (p + 1) from (nI_succ p).symm, rs_p]
        refine wq_g 20 d208_73 (by decide) ?_
        first
          | (have h9 := hv _ (if_pos c52).symm
             rw [h9]
             exact ih (p + 1) _ _ (by omega) (by omega) (lx_cut hb.1 hxy : min (min x 4000000000 * b + lx_dk (t p)) 4000000000 = _) hQ)
          | (have h9 := hv _ (if_neg c52).symm
             rw [show (4000000000 : Int64) = lN (min (min x 4000000000 * b + lx_dk (t p)) 4000000000) from h9]
             exact ih (p + 1) _ _ (by omega) (by omega) (lx_cut hb.1 hxy : min (min x 4000000000 * b + lx_dk (t p)) 4000000000 = _) hQ)
theorem sp208 {d : Nat} {σ : pm_S} {Q : Option Value → pm_S → Prop} {t : Nat → Nat} {M : Nat} {b p : Nat} (hT : rx_T σ t M) (hb : 1 ≤ b ∧ b ≤ 16) (hp : p ≤ M + 3) (hQ : Q (some (.long (rx_v t M b p))) (rs σ (lx_de t M b p))) : pm_call pm_Y0 (d + 3) 208 [.ref 10, .int (nI b)] (rs σ p) Q := by
  have hM := hT.2.1
  have eb := nI_toInt (n := b) (by omega)
  have hd := rx_db (t := t) (M := M) (p := p) hb.2
  unfold rx_v at hQ
  refine wq_m m208 (Nat.le_of_ble_eq_true rfl) (by decide) rfl ?_
  refine wq_l 1 d208_0 rfl rfl rfl rfl ?_
  refine wq_k 2 0 d208_1 (by decide) rfl ?_
  refine wq_v 5 [_] d208_2 rfl rfl m205 rfl rfl (Nat.le_of_ble_eq_true rfl) rfl (sp205z hT (by omega) ?_)
  refine wq_vs 8 [_] d208_5 rfl rfl m209 rfl (Nat.le_of_ble_eq_true rfl) rfl (sp209 hT.2.2.2 ?_)
  refine wq_l 9 d208_8 rfl rfl rfl rfl ?_
  refine wq_b 16 12 d208_9 rfl (by decide) rfl (fun c9 => ?_) (fun c9 => ?_)
  · -- pc 16
    have hlt : ¬ (p < M ∧ lx_dk (t p) < b) := fun z => by have := hd.1.mpr z; simp only [i_lt, i_le, i_eq, ne_eq, Int32.reduceToInt, b2_0, b2_1, decide_eq_true_eq, decide_eq_false_iff_not, Bool.not_eq_true, Bool.not_eq_false, eb] at c9; omega
    have heq : lx_de t M b p = p := by rw [lx_de_u, if_neg hlt]
    rw [if_pos heq, heq] at hQ
    refine wq_cl 19 d208_16 rfl rfl ?_
    refine wq_s 20 d208_19 rfl rfl (Nat.le_of_ble_eq_true rfl) rfl rfl ?_
    first
      | exact rx_dl hT hb (M - p) p 0 0 rfl hp rfl hQ
      | (
         refine wq_l 21 d208_20 rfl rfl rfl rfl ?_
         refine wq_k 22 0 d208_21 (by decide) rfl ?_
         refine wq_v 25 [_] d208_22 rfl rfl m205 rfl rfl (Nat.le_of_ble_eq_true rfl) rfl (sp205z hT (by omega) ?_)
         refine wq_vs 28 [_] d208_25 rfl rfl m209 rfl (Nat.le_of_ble_eq_true rfl) rfl (sp209 hT.2.2.2 ?_)
         refine wq_l 29 d208_28 rfl rfl rfl rfl ?_
         refine wq_b 76 32 d208_29 rfl (by decide) rfl (fun c29 => ?_) (fun c29 => absurd (by have z := c9; simp only [i_lt, i_le, i_eq, ne_eq, Int32.reduceToInt, b2_0, b2_1, decide_eq_true_eq, decide_eq_false_iff_not, Bool.not_eq_true, Bool.not_eq_false, eb] at z ⊢; omega) c29)
         refine wq_l 77 d208_76 rfl rfl rfl rfl ?_
         refine wq_rl d208_77 ?_
         exact hQ)
  · -- pc 12
    have hlt : p < M ∧ lx_dk (t p) < b := hd.1.mp (by simp only [i_lt, i_le, i_eq, ne_eq, Int32.reduceToInt, b2_0, b2_1, decide_eq_true_eq, decide_eq_false_iff_not, Bool.not_eq_true, Bool.not_eq_false, eb] at * <;> omega)
    have hne : ¬ lx_de t M b p = p := by rw [lx_de_u, if_pos hlt]; have := lx_de_b (t := t) (M := M) (b := b) (M - (p + 1)) (p + 1); have h1 : p + 1 ≤ lx_de t M b (p + 1) := this.1; omega
    rw [if_neg hne] at hQ
    refine wq_a 13 d208_12 rfl rfl ?_
    refine wq_g 19 d208_13 (by decide) ?_
    refine wq_s 20 d208_19 rfl rfl (Nat.le_of_ble_eq_true rfl) rfl rfl ?_
    first
      | exact rx_dl hT hb (M - p) p 0 0 rfl hp rfl hQ
      | (
         refine wq_l 21 d208_20 rfl rfl rfl rfl ?_
         refine wq_k 22 0 d208_21 (by decide) rfl ?_
         refine wq_v 25 [_] d208_22 rfl rfl m205 rfl rfl (Nat.le_of_ble_eq_true rfl) rfl (sp205z hT (by omega) ?_)
         refine wq_vs 28 [_] d208_25 rfl rfl m209 rfl (Nat.le_of_ble_eq_true rfl) rfl (sp209 hT.2.2.2 ?_)
         refine wq_l 29 d208_28 rfl rfl rfl rfl ?_
         refine wq_b 76 32 d208_29 rfl (by decide) rfl (fun c29 => ?_) (fun c29 => absurd (by have z := c9; simp only [i_lt, i_le, i_eq, ne_eq, Int32.reduceToInt, b2_0, b2_1, decide_eq_true_eq, decide_eq_false_iff_not, Bool.not_eq_true, Bool.not_eq_false, eb] at z ⊢; omega) c29)
         refine wq_l 77 d208_76 rfl rfl rfl rfl ?_
         refine wq_rl d208_77 ?_
         exact hQ)
theorem lc_lt (x y : Int64) : lg_cmp x y < 0 ↔ x.toInt < y.toInt := by
  have h1 := lc_le x y
  have h2 := lc_eq x y
  rw [i_le] at h1
  rw [i_eq] at h2
  rw [i_lt]
  have e : (0 : Int32).toInt = 0 := rfl
  omega
/-- the reference's number for a kind of tokens -/
def rx_c (k : Nat) : Int32 := if k < 41 then nI (100 + k) else if k = 41 then 1 else if k = 42 then 2 else if k = 43 then 3 else if k = 44 then 0 else if k < 52 then nI (400 + (k - 47)) else nI (200 + lx_sgs.getD (k - 52) 0)
def rx_Q (Q : Option Value → pm_S → Prop) (σ : pm_S) (q : Nat) (r : lx_K) : Prop := (r.1 = 45 → ∀ e', Q none (pm_pi (pm_pi (rs σ e') 10 6 (nI r.2.1)) 10 7 (nI q))) ∧ (r.1 ≠ 45 → Q none (pm_pi (pm_pi (rs σ r.2.2) 10 3 (rx_c r.1)) 10 5 (nI r.2.1)))
/-- before a token is read: nothing is wrong, its place is q -/
def rx_0 (σ : pm_S) (q : Nat) : Prop := σ.1 10 6 = 0 ∧ σ.1 10 4 = nI q ∧ σ.1 10 5 = 0
theorem sp212 {d : Nat} {σ : pm_S} {Q : Option Value → pm_S → Prop} {t : Nat → Nat} {M : Nat} {e q x v : Nat} {w : Int64} (hT : rx_T σ t M) (h0 : rx_0 σ q) (he : e < 2 ^ 29) (hw : w = -1 ∨ (w = lN x ∧ x < 2 ^ 62 ∧ (2147483647 < x ↔ 2147483647 < v) ∧ (v ≤ 2147483647 → x = v))) (hQ : rx_Q Q σ q (if w = -1 then (45, 4, e) else lx_fin t M e v)) : pm_call pm_Y0 (d + 4) 212 [.ref 10, .long w] (rs σ e) Q := by
  have e0 := lx_ci (M := M) hT.2.2.2 e
  have el0 : (Int64.ofInt 0).toInt = 0 := rfl
  have el9 : (Int64.ofNat ((0 : Fin 2) : Nat)).toInt = 0 := rfl
  have em : (2147483647 : Int64).toInt = 2147483647 := rfl
  have e1 : (-1 : Int64).toInt = -1 := rfl
  have h6 : (rs σ e).1 10 6 = 0 := h0.1
  have h4 : (rs σ e).1 10 4 = nI q := h0.2.1
  have hb : (w = -1 ∨ lx_np (lx_i t M e) = true ∨ 2147483647 < v) → Q none (pm_pi (pm_pi (rs σ e) 10 6 4) 10 7 (nI q)) := fun h => by
    by_cases hm : w = -1
    · rw [if_pos hm] at hQ; exact hQ.1 rfl e
    · rw [if_neg hm, show lx_fin t M e v = (45, 4, e) from if_pos (h.resolve_left hm)] at hQ; exact hQ.1 rfl e
  have hg : ¬ w = -1 → ¬ (lx_np (lx_i t M e) = true ∨ 2147483647 < v) → Q none (pm_pi (pm_pi (rs σ e) 10 3 2) 10 5 (nI v)) := fun hm h => by
    rw [if_neg hm, show lx_fin t M e v = (42, v, e) from if_neg h] at hQ; exact hQ.2 (by decide : (42 : Nat) ≠ 45)
  clear hQ
  have hw2 : w.toInt = -1 ∨ (w.toInt = (x : Int) ∧ (2147483647 < x ↔ 2147483647 < v)) := by
    rcases hw with z | ⟨z, z1, z2, _⟩
    · left; rw [z]; exact e1
    · right; rw [z, lN_t z1]; exact ⟨rfl, z2⟩
  have hwm : w = -1 ↔ w.toInt = -1 := by rw [← e1, Int64.toInt_inj]
  refine wq_m m212 (Nat.le_of_ble_eq_true rfl) (by decide) rfl ?_
  refine wq_l 1 d212_0 rfl rfl rfl rfl ?_
  refine wq_a 2 d212_1 rfl rfl ?_
  refine wq_a 3 d212_2 rfl rfl ?_
  refine wq_b 25 6 d212_3 rfl (by decide) rfl (fun c3 => ?_) (fun c3 => ?_)
  · -- pc 25
    have hb' := hb (by
      first
        | (left; rw [hwm]; have z := c3; simp only [lc_lt, lc_gt, lc_le, lc_eq, el0, el9, em, gt_iff_lt] at z; omega)
        | (right; right; have z := c11; simp only [lc_lt, lc_gt, lc_le, lc_eq, el0, el9, em, gt_iff_lt] at z; omega)
        | (right; left; simpa only [i_lt, i_le, i_eq, ne_eq, Int32.reduceToInt, b2_0, b2_1, decide_eq_true_eq, decide_eq_false_iff_not, Bool.not_eq_true, Bool.not_eq_false, e0] using c22))
    refine wq_l 26 d212_25 rfl rfl rfl rfl ?_
    refine wq_k 27 4 d212_26 (by decide) rfl ?_
    refine wq_l 28 d212_27 rfl rfl rfl rfl ?_
    refine wq_gi (ci := 10) (j := 4) 31 d212_28 rfl rfl rfl rfl ?_
    rw [h4]
    refine wq_v 34 [_, _] d212_31 rfl rfl m206 rfl rfl (Nat.le_of_ble_eq_true rfl) rfl (sp206 h6 ?_)
    refine wq_rv d212_34 ?_
    exact hb'
  · -- pc 6
    refine wq_l 7 d212_6 rfl rfl rfl rfl ?_
    refine wq_cl 10 d212_7 rfl rfl ?_
    refine wq_a 11 d212_10 rfl rfl ?_
    refine wq_b 25 14 d212_11 rfl (by decide) rfl (fun c11 => ?_) (fun c11 => ?_)
    · -- pc 25
      have hb' := hb (by
        first
          | (left; rw [hwm]; have z := c3; simp only [lc_lt, lc_gt, lc_le, lc_eq, el0, el9, em, gt_iff_lt] at z; omega)
          | (right; right; have z := c11; simp only [lc_lt, lc_gt, lc_le, lc_eq, el0, el9, em, gt_iff_lt] at z; omega)
          | (right; left; simpa only [i_lt, i_le, i_eq, ne_eq, Int32.reduceToInt, b2_0, b2_1, decide_eq_true_eq, decide_eq_false_iff_not, Bool.not_eq_true, Bool.not_eq_false, e0] using c22))
      refine wq_l 26 d212_25 rfl rfl rfl rfl ?_
      refine wq_k 27 4 d212_26 (by decide) rfl ?_
      refine wq_l 28 d212_27 rfl rfl rfl rfl ?_
      refine wq_gi (ci := 10) (j := 4) 31 d212_28 rfl rfl rfl rfl ?_
      rw [h4]
      refine wq_v 34 [_, _] d212_31 rfl rfl m206 rfl rfl (Nat.le_of_ble_eq_true rfl) rfl (sp206 h6 ?_)
      refine wq_rv d212_34 ?_
      exact hb'
    · -- pc 14
      refine wq_l 15 d212_14 rfl rfl rfl rfl ?_
      refine wq_k 16 0 d212_15 (by decide) rfl ?_
      refine wq_v 19 [_] d212_16 rfl rfl m205 rfl rfl (Nat.le_of_ble_eq_true rfl) rfl (sp205z hT (by omega) ?_)
      refine wq_vs 22 [_] d212_19 rfl rfl m213 rfl (Nat.le_of_ble_eq_true rfl) rfl (sp213 ?_)
      refine wq_b 35 25 d212_22 rfl (by decide) rfl (fun c22 => ?_) (fun c22 => ?_)
      · -- pc 35
        have z1 := c3
        have z2 := c11
        simp only [lc_lt, lc_gt, lc_le, lc_eq, el0, el9, em, gt_iff_lt] at z1 z2
        have hm : ¬ w = -1 := by rw [hwm]; omega
        have hnp : lx_np (lx_i t M e) = false := by simpa only [i_lt, i_le, i_eq, ne_eq, Int32.reduceToInt, b2_0, b2_1, decide_eq_true_eq, decide_eq_false_iff_not, Bool.not_eq_true, Bool.not_eq_false, e0] using c22
        have hv : v ≤ 2147483647 := by omega
        have hg' := hg hm (by rintro (q | q); (rw [hnp] at q; cases q); omega)
        obtain ⟨y1, y2, _, y4⟩ := hw.resolve_left hm
        refine wq_l 36 d212_35 rfl rfl rfl rfl ?_
        refine wq_k 37 2 d212_36 (by decide) rfl ?_
        refine wq_pf (ci := 10) (j := 3) 40 d212_37 rfl rfl rfl ⟨rfl, rfl⟩ rfl ?_
        refine wq_l 41 d212_40 rfl rfl rfl rfl ?_
        refine wq_l 42 d212_41 rfl rfl rfl rfl ?_
        refine wq_a 43 d212_42 rfl rfl ?_
        rw [y1, lN_i, y4 hv]
        refine wq_pf (ci := 10) (j := 5) 46 d212_43 rfl rfl rfl ⟨rfl, rfl⟩ rfl ?_
        refine wq_rv d212_46 ?_
        exact hg'
      · -- pc 25
        have hb' := hb (by
          first
            | (left; rw [hwm]; have z := c3; simp only [lc_lt, lc_gt, lc_le, lc_eq, el0, el9, em, gt_iff_lt] at z; omega)
            | (right; right; have z := c11; simp only [lc_lt, lc_gt, lc_le, lc_eq, el0, el9, em, gt_iff_lt] at z; omega)
            | (right; left; simpa only [i_lt, i_le, i_eq, ne_eq, Int32.reduceToInt, b2_0, b2_1, decide_eq_true_eq, decide_eq_false_iff_not, Bool.not_eq_true, Bool.not_eq_false, e0] using c22))
        refine wq_l 26 d212_25 rfl rfl rfl rfl ?_
        refine wq_k 27 4 d212_26 (by decide) rfl ?_
        refine wq_l 28 d212_27 rfl rfl rfl rfl ?_
        refine wq_gi (ci := 10) (j := 4) 31 d212_28 rfl rfl rfl rfl ?_
        rw [h4]
        refine wq_v 34 [_, _] d212_31 rfl rfl m206 rfl rfl (Nat.le_of_ble_eq_true rfl) rfl (sp206 h6 ?_)
        refine wq_rv d212_34 ?_
        exact hb'
theorem d221_0 : decode prog_14_method_19_code 0 = .ok (.aload_n 0, 1) := by decide +kernel
theorem d221_1 : decode prog_14_method_19_code 1 = .ok (.bipush 10, 2) := by decide +kernel
theorem d221_3 : decode prog_14_method_19_code 3 = .ok (.invokevirtual 187, 3) := by decide +kernel
theorem d221_6 : decode prog_14_method_19_code 6 = .ok (.lstore_n 1, 1) := by decide +kernel
theorem d221_7 : decode prog_14_method_19_code 7 = .ok (.aload_n 0, 1) := by decide +kernel
theorem d221_8 : decode prog_14_method_19_code 8 = .ok (.iconst 0, 1) := by decide +kernel
theorem d221_9 : decode prog_14_method_19_code 9 = .ok (.invokevirtual 141, 3) := by decide +kernel
theorem d221_12 : decode prog_14_method_19_code 12 = .ok (.bipush 35, 2) := by decide +kernel
theorem d221_14 : decode prog_14_method_19_code 14 = .ok (.if_icmp .eq 9, 3) := by decide +kernel
theorem d221_17 : decode prog_14_method_19_code 17 = .ok (.aload_n 0, 1) := by decide +kernel
theorem d221_18 : decode prog_14_method_19_code 18 = .ok (.lload_n 1, 1) := by decide +kernel
theorem d221_19 : decode prog_14_method_19_code 19 = .ok (.invokevirtual 191, 3) := by decide +kernel
theorem d221_22 : decode prog_14_method_19_code 22 = .ok (.return_, 1) := by decide +kernel
theorem d221_23 : decode prog_14_method_19_code 23 = .ok (.aload_n 0, 1) := by decide +kernel
theorem d221_24 : decode prog_14_method_19_code 24 = .ok (.dup, 1) := by decide +kernel
theorem d221_25 : decode prog_14_method_19_code 25 = .ok (.getfield 121, 3) := by decide +kernel
theorem d221_28 : decode prog_14_method_19_code 28 = .ok (.iconst 1, 1) := by decide +kernel
theorem d221_29 : decode prog_14_method_19_code 29 = .ok (.iadd, 1) := by decide +kernel
theorem d221_30 : decode prog_14_method_19_code 30 = .ok (.putfield 121, 3) := by decide +kernel
theorem d221_33 : decode prog_14_method_19_code 33 = .ok (.aload_n 0, 1) := by decide +kernel
theorem d221_34 : decode prog_14_method_19_code 34 = .ok (.lload_n 1, 1) := by decide +kernel
theorem d221_35 : decode prog_14_method_19_code 35 = .ok (.ldc2_w 195, 3) := by decide +kernel
theorem d221_38 : decode prog_14_method_19_code 38 = .ok (.lcmp, 1) := by decide +kernel
theorem d221_39 : decode prog_14_method_19_code 39 = .ok (.ifCond .eq 11, 3) := by decide +kernel
theorem d221_42 : decode prog_14_method_19_code 42 = .ok (.lload_n 1, 1) := by decide +kernel
theorem d221_43 : decode prog_14_method_19_code 43 = .ok (.ldc2_w 197, 3) := by decide +kernel
theorem d221_46 : decode prog_14_method_19_code 46 = .ok (.lcmp, 1) := by decide +kernel
theorem d221_47 : decode prog_14_method_19_code 47 = .ok (.ifCond .ne 12, 3) := by decide +kernel
theorem d221_50 : decode prog_14_method_19_code 50 = .ok (.aload_n 0, 1) := by decide +kernel
theorem d221_51 : decode prog_14_method_19_code 51 = .ok (.lload_n 1, 1) := by decide +kernel
theorem d221_52 : decode prog_14_method_19_code 52 = .ok (.l2i, 1) := by decide +kernel
theorem d221_53 : decode prog_14_method_19_code 53 = .ok (.invokevirtual 187, 3) := by decide +kernel
theorem d221_56 : decode prog_14_method_19_code 56 = .ok (.goto 6, 3) := by decide +kernel
theorem d221_59 : decode prog_14_method_19_code 59 = .ok (.ldc2_w 178, 3) := by decide +kernel
theorem d221_62 : decode prog_14_method_19_code 62 = .ok (.invokevirtual 191, 3) := by decide +kernel
theorem d221_65 : decode prog_14_method_19_code 65 = .ok (.return_, 1) := by decide +kernel
theorem m221 : pm_m 221 = some (⟨"TypeRulesModel", "number", "()V"⟩, prog_14_method_19_code, 3, none, 10, 0, 11) := rfl
theorem d207_0 : decode prog_14_method_20_code 0 = .ok (.aload_n 0, 1) := by decide +kernel
theorem d207_1 : decode prog_14_method_20_code 1 = .ok (.dup, 1) := by decide +kernel
theorem d207_2 : decode prog_14_method_20_code 2 = .ok (.getfield 121, 3) := by decide +kernel
theorem d207_5 : decode prog_14_method_20_code 5 = .ok (.iconst 2, 1) := by decide +kernel
theorem d207_6 : decode prog_14_method_20_code 6 = .ok (.iadd, 1) := by decide +kernel
theorem d207_7 : decode prog_14_method_20_code 7 = .ok (.putfield 121, 3) := by decide +kernel
theorem d207_10 : decode prog_14_method_20_code 10 = .ok (.aload_n 0, 1) := by decide +kernel
theorem d207_11 : decode prog_14_method_20_code 11 = .ok (.bipush 10, 2) := by decide +kernel
theorem d207_13 : decode prog_14_method_20_code 13 = .ok (.invokevirtual 187, 3) := by decide +kernel
theorem d207_16 : decode prog_14_method_20_code 16 = .ok (.lstore_n 1, 1) := by decide +kernel
theorem d207_17 : decode prog_14_method_20_code 17 = .ok (.aload_n 0, 1) := by decide +kernel
theorem d207_18 : decode prog_14_method_20_code 18 = .ok (.iconst 0, 1) := by decide +kernel
theorem d207_19 : decode prog_14_method_20_code 19 = .ok (.invokevirtual 141, 3) := by decide +kernel
theorem d207_22 : decode prog_14_method_20_code 22 = .ok (.invokestatic 124, 3) := by decide +kernel
theorem d207_25 : decode prog_14_method_20_code 25 = .ok (.istore_n 3, 1) := by decide +kernel
theorem d207_26 : decode prog_14_method_20_code 26 = .ok (.iload_n 3, 1) := by decide +kernel
theorem d207_27 : decode prog_14_method_20_code 27 = .ok (.bipush 77, 2) := by decide +kernel
theorem d207_29 : decode prog_14_method_20_code 29 = .ok (.if_icmp .ne 20, 3) := by decide +kernel
theorem d207_32 : decode prog_14_method_20_code 32 = .ok (.aload_n 0, 1) := by decide +kernel
theorem d207_33 : decode prog_14_method_20_code 33 = .ok (.iconst 1, 1) := by decide +kernel
theorem d207_34 : decode prog_14_method_20_code 34 = .ok (.invokevirtual 141, 3) := by decide +kernel
theorem d207_37 : decode prog_14_method_20_code 37 = .ok (.invokestatic 124, 3) := by decide +kernel
theorem d207_40 : decode prog_14_method_20_code 40 = .ok (.bipush 83, 2) := by decide +kernel
theorem d207_42 : decode prog_14_method_20_code 42 = .ok (.if_icmp .ne 7, 3) := by decide +kernel
theorem d207_45 : decode prog_14_method_20_code 45 = .ok (.iconst 1, 1) := by decide +kernel
theorem d207_46 : decode prog_14_method_20_code 46 = .ok (.goto 4, 3) := by decide +kernel
theorem d207_49 : decode prog_14_method_20_code 49 = .ok (.iconst 0, 1) := by decide +kernel
theorem d207_50 : decode prog_14_method_20_code 50 = .ok (.istore 4, 2) := by decide +kernel
theorem d207_52 : decode prog_14_method_20_code 52 = .ok (.iload 4, 2) := by decide +kernel
theorem d207_54 : decode prog_14_method_20_code 54 = .ok (.ifCond .eq 7, 3) := by decide +kernel
theorem d207_57 : decode prog_14_method_20_code 57 = .ok (.lconst 1, 1) := by decide +kernel
theorem d207_58 : decode prog_14_method_20_code 58 = .ok (.goto 40, 3) := by decide +kernel
theorem d207_61 : decode prog_14_method_20_code 61 = .ok (.iload_n 3, 1) := by decide +kernel
theorem d207_62 : decode prog_14_method_20_code 62 = .ok (.bipush 83, 2) := by decide +kernel
theorem d207_64 : decode prog_14_method_20_code 64 = .ok (.if_icmp .ne 9, 3) := by decide +kernel
theorem d207_67 : decode prog_14_method_20_code 67 = .ok (.ldc2_w 199, 3) := by decide +kernel
theorem d207_70 : decode prog_14_method_20_code 70 = .ok (.goto 28, 3) := by decide +kernel
theorem d207_73 : decode prog_14_method_20_code 73 = .ok (.iload_n 3, 1) := by decide +kernel
theorem d207_74 : decode prog_14_method_20_code 74 = .ok (.bipush 77, 2) := by decide +kernel
theorem d207_76 : decode prog_14_method_20_code 76 = .ok (.if_icmp .ne 9, 3) := by decide +kernel
theorem d207_79 : decode prog_14_method_20_code 79 = .ok (.ldc2_w 201, 3) := by decide +kernel
theorem d207_82 : decode prog_14_method_20_code 82 = .ok (.goto 16, 3) := by decide +kernel
theorem d207_85 : decode prog_14_method_20_code 85 = .ok (.iload_n 3, 1) := by decide +kernel
theorem d207_86 : decode prog_14_method_20_code 86 = .ok (.bipush 72, 2) := by decide +kernel
theorem d207_88 : decode prog_14_method_20_code 88 = .ok (.if_icmp .ne 9, 3) := by decide +kernel
theorem d207_91 : decode prog_14_method_20_code 91 = .ok (.ldc2_w 203, 3) := by decide +kernel
theorem d207_94 : decode prog_14_method_20_code 94 = .ok (.goto 4, 3) := by decide +kernel
theorem d207_97 : decode prog_14_method_20_code 97 = .ok (.lconst 0, 1) := by decide +kernel
theorem d207_98 : decode prog_14_method_20_code 98 = .ok (.lstore 5, 2) := by decide +kernel
theorem d207_100 : decode prog_14_method_20_code 100 = .ok (.aload_n 0, 1) := by decide +kernel
theorem d207_101 : decode prog_14_method_20_code 101 = .ok (.dup, 1) := by decide +kernel
theorem d207_102 : decode prog_14_method_20_code 102 = .ok (.getfield 121, 3) := by decide +kernel
theorem d207_105 : decode prog_14_method_20_code 105 = .ok (.iload 4, 2) := by decide +kernel
theorem d207_107 : decode prog_14_method_20_code 107 = .ok (.ifCond .eq 7, 3) := by decide +kernel
theorem d207_110 : decode prog_14_method_20_code 110 = .ok (.iconst 2, 1) := by decide +kernel
theorem d207_111 : decode prog_14_method_20_code 111 = .ok (.goto 15, 3) := by decide +kernel
theorem d207_114 : decode prog_14_method_20_code 114 = .ok (.lload 5, 2) := by decide +kernel
theorem d207_116 : decode prog_14_method_20_code 116 = .ok (.lconst 0, 1) := by decide +kernel
theorem d207_117 : decode prog_14_method_20_code 117 = .ok (.lcmp, 1) := by decide +kernel
theorem d207_118 : decode prog_14_method_20_code 118 = .ok (.ifCond .le 7, 3) := by decide +kernel
theorem d207_121 : decode prog_14_method_20_code 121 = .ok (.iconst 1, 1) := by decide +kernel
theorem d207_122 : decode prog_14_method_20_code 122 = .ok (.goto 4, 3) := by decide +kernel
theorem d207_125 : decode prog_14_method_20_code 125 = .ok (.iconst 0, 1) := by decide +kernel
theorem d207_126 : decode prog_14_method_20_code 126 = .ok (.iadd, 1) := by decide +kernel
theorem d207_127 : decode prog_14_method_20_code 127 = .ok (.putfield 121, 3) := by decide +kernel
theorem d207_130 : decode prog_14_method_20_code 130 = .ok (.aload_n 0, 1) := by decide +kernel
theorem d207_131 : decode prog_14_method_20_code 131 = .ok (.lload_n 1, 1) := by decide +kernel
theorem d207_132 : decode prog_14_method_20_code 132 = .ok (.lconst 0, 1) := by decide +kernel
theorem d207_133 : decode prog_14_method_20_code 133 = .ok (.lcmp, 1) := by decide +kernel
theorem d207_134 : decode prog_14_method_20_code 134 = .ok (.ifCond .lt 10, 3) := by decide +kernel
theorem d207_137 : decode prog_14_method_20_code 137 = .ok (.lload 5, 2) := by decide +kernel
theorem d207_139 : decode prog_14_method_20_code 139 = .ok (.lconst 0, 1) := by decide +kernel
theorem d207_140 : decode prog_14_method_20_code 140 = .ok (.lcmp, 1) := by decide +kernel
theorem d207_141 : decode prog_14_method_20_code 141 = .ok (.ifCond .ne 9, 3) := by decide +kernel
theorem d207_144 : decode prog_14_method_20_code 144 = .ok (.ldc2_w 178, 3) := by decide +kernel
theorem d207_147 : decode prog_14_method_20_code 147 = .ok (.goto 7, 3) := by decide +kernel
theorem d207_150 : decode prog_14_method_20_code 150 = .ok (.lload_n 1, 1) := by decide +kernel
theorem d207_151 : decode prog_14_method_20_code 151 = .ok (.lload 5, 2) := by decide +kernel
theorem d207_153 : decode prog_14_method_20_code 153 = .ok (.lmul, 1) := by decide +kernel
theorem d207_154 : decode prog_14_method_20_code 154 = .ok (.invokevirtual 191, 3) := by decide +kernel
theorem d207_157 : decode prog_14_method_20_code 157 = .ok (.return_, 1) := by decide +kernel
theorem m207 : pm_m 207 = some (⟨"TypeRulesModel", "time", "()V"⟩, prog_14_method_20_code, 7, none, 10, 0, 11) := rfl
theorem d222_0 : decode prog_14_method_21_code 0 = .ok (.aload_n 0, 1) := by decide +kernel
theorem d222_1 : decode prog_14_method_21_code 1 = .ok (.iconst 1, 1) := by decide +kernel
theorem d222_2 : decode prog_14_method_21_code 2 = .ok (.invokevirtual 141, 3) := by decide +kernel
theorem d222_5 : decode prog_14_method_21_code 5 = .ok (.invokestatic 124, 3) := by decide +kernel
theorem d222_8 : decode prog_14_method_21_code 8 = .ok (.istore_n 1, 1) := by decide +kernel
theorem d222_9 : decode prog_14_method_21_code 9 = .ok (.aload_n 0, 1) := by decide +kernel
theorem d222_10 : decode prog_14_method_21_code 10 = .ok (.iconst 2, 1) := by decide +kernel
theorem d222_11 : decode prog_14_method_21_code 11 = .ok (.invokevirtual 141, 3) := by decide +kernel
theorem d222_14 : decode prog_14_method_21_code 14 = .ok (.invokestatic 124, 3) := by decide +kernel
theorem d222_17 : decode prog_14_method_21_code 17 = .ok (.istore_n 2, 1) := by decide +kernel
theorem d222_18 : decode prog_14_method_21_code 18 = .ok (.iload_n 1, 1) := by decide +kernel
theorem d222_19 : decode prog_14_method_21_code 19 = .ok (.bipush 73, 2) := by decide +kernel
theorem d222_21 : decode prog_14_method_21_code 21 = .ok (.if_icmp .ne 7, 3) := by decide +kernel
theorem d222_24 : decode prog_14_method_21_code 24 = .ok (.iconst 0, 1) := by decide +kernel
theorem d222_25 : decode prog_14_method_21_code 25 = .ok (.goto 25, 3) := by decide +kernel
theorem d222_28 : decode prog_14_method_21_code 28 = .ok (.iload_n 1, 1) := by decide +kernel
theorem d222_29 : decode prog_14_method_21_code 29 = .ok (.bipush 81, 2) := by decide +kernel
theorem d222_31 : decode prog_14_method_21_code 31 = .ok (.if_icmp .ne 7, 3) := by decide +kernel
theorem d222_34 : decode prog_14_method_21_code 34 = .ok (.iconst 1, 1) := by decide +kernel
theorem d222_35 : decode prog_14_method_21_code 35 = .ok (.goto 15, 3) := by decide +kernel
theorem d222_38 : decode prog_14_method_21_code 38 = .ok (.iload_n 1, 1) := by decide +kernel
theorem d222_39 : decode prog_14_method_21_code 39 = .ok (.bipush 77, 2) := by decide +kernel
theorem d222_41 : decode prog_14_method_21_code 41 = .ok (.if_icmp .ne 7, 3) := by decide +kernel
theorem d222_44 : decode prog_14_method_21_code 44 = .ok (.iconst 2, 1) := by decide +kernel
theorem d222_45 : decode prog_14_method_21_code 45 = .ok (.goto 5, 3) := by decide +kernel
theorem d222_48 : decode prog_14_method_21_code 48 = .ok (.bipush 9, 2) := by decide +kernel
theorem d222_50 : decode prog_14_method_21_code 50 = .ok (.iload_n 2, 1) := by decide +kernel
theorem d222_51 : decode prog_14_method_21_code 51 = .ok (.bipush 88, 2) := by decide +kernel
theorem d222_53 : decode prog_14_method_21_code 53 = .ok (.if_icmp .ne 7, 3) := by decide +kernel
theorem d222_56 : decode prog_14_method_21_code 56 = .ok (.iconst 0, 1) := by decide +kernel
theorem d222_57 : decode prog_14_method_21_code 57 = .ok (.goto 15, 3) := by decide +kernel
theorem d222_60 : decode prog_14_method_21_code 60 = .ok (.iload_n 2, 1) := by decide +kernel
theorem d222_61 : decode prog_14_method_21_code 61 = .ok (.bipush 87, 2) := by decide +kernel
theorem d222_63 : decode prog_14_method_21_code 63 = .ok (.if_icmp .ne 7, 3) := by decide +kernel
theorem d222_66 : decode prog_14_method_21_code 66 = .ok (.iconst 3, 1) := by decide +kernel
theorem d222_67 : decode prog_14_method_21_code 67 = .ok (.goto 5, 3) := by decide +kernel
theorem d222_70 : decode prog_14_method_21_code 70 = .ok (.bipush 9, 2) := by decide +kernel
theorem d222_72 : decode prog_14_method_21_code 72 = .ok (.iadd, 1) := by decide +kernel
theorem d222_73 : decode prog_14_method_21_code 73 = .ok (.istore_n 3, 1) := by decide +kernel
theorem d222_74 : decode prog_14_method_21_code 74 = .ok (.aload_n 0, 1) := by decide +kernel
theorem d222_75 : decode prog_14_method_21_code 75 = .ok (.dup, 1) := by decide +kernel
theorem d222_76 : decode prog_14_method_21_code 76 = .ok (.getfield 121, 3) := by decide +kernel
theorem d222_79 : decode prog_14_method_21_code 79 = .ok (.iconst 3, 1) := by decide +kernel
theorem d222_80 : decode prog_14_method_21_code 80 = .ok (.iadd, 1) := by decide +kernel
theorem d222_81 : decode prog_14_method_21_code 81 = .ok (.putfield 121, 3) := by decide +kernel
theorem d222_84 : decode prog_14_method_21_code 84 = .ok (.iload_n 3, 1) := by decide +kernel
theorem d222_85 : decode prog_14_method_21_code 85 = .ok (.bipush 6, 2) := by decide +kernel
theorem d222_87 : decode prog_14_method_21_code 87 = .ok (.if_icmp .ge 12, 3) := by decide +kernel
theorem d222_90 : decode prog_14_method_21_code 90 = .ok (.aload_n 0, 1) := by decide +kernel
theorem d222_91 : decode prog_14_method_21_code 91 = .ok (.bipush 10, 2) := by decide +kernel
theorem d222_93 : decode prog_14_method_21_code 93 = .ok (.invokevirtual 187, 3) := by decide +kernel
theorem d222_96 : decode prog_14_method_21_code 96 = .ok (.goto 6, 3) := by decide +kernel
theorem d222_99 : decode prog_14_method_21_code 99 = .ok (.ldc2_w 178, 3) := by decide +kernel
theorem d222_102 : decode prog_14_method_21_code 102 = .ok (.lstore 4, 2) := by decide +kernel
theorem d222_104 : decode prog_14_method_21_code 104 = .ok (.lload 4, 2) := by decide +kernel
theorem d222_106 : decode prog_14_method_21_code 106 = .ok (.lconst 0, 1) := by decide +kernel
theorem d222_107 : decode prog_14_method_21_code 107 = .ok (.lcmp, 1) := by decide +kernel
theorem d222_108 : decode prog_14_method_21_code 108 = .ok (.ifCond .lt 34, 3) := by decide +kernel
theorem d222_111 : decode prog_14_method_21_code 111 = .ok (.lload 4, 2) := by decide +kernel
theorem d222_113 : decode prog_14_method_21_code 113 = .ok (.iload_n 3, 1) := by decide +kernel
theorem d222_114 : decode prog_14_method_21_code 114 = .ok (.iconst 3, 1) := by decide +kernel
theorem d222_115 : decode prog_14_method_21_code 115 = .ok (.if_icmp .ge 9, 3) := by decide +kernel
theorem d222_118 : decode prog_14_method_21_code 118 = .ok (.ldc2_w 205, 3) := by decide +kernel
theorem d222_121 : decode prog_14_method_21_code 121 = .ok (.goto 6, 3) := by decide +kernel
theorem d222_124 : decode prog_14_method_21_code 124 = .ok (.ldc2_w 207, 3) := by decide +kernel
theorem d222_127 : decode prog_14_method_21_code 127 = .ok (.lcmp, 1) := by decide +kernel
theorem d222_128 : decode prog_14_method_21_code 128 = .ok (.ifCond .gt 14, 3) := by decide +kernel
theorem d222_131 : decode prog_14_method_21_code 131 = .ok (.aload_n 0, 1) := by decide +kernel
theorem d222_132 : decode prog_14_method_21_code 132 = .ok (.iconst 0, 1) := by decide +kernel
theorem d222_133 : decode prog_14_method_21_code 133 = .ok (.invokevirtual 141, 3) := by decide +kernel
theorem d222_136 : decode prog_14_method_21_code 136 = .ok (.invokestatic 184, 3) := by decide +kernel
theorem d222_139 : decode prog_14_method_21_code 139 = .ok (.ifCond .eq 13, 3) := by decide +kernel
theorem d222_142 : decode prog_14_method_21_code 142 = .ok (.aload_n 0, 1) := by decide +kernel
theorem d222_143 : decode prog_14_method_21_code 143 = .ok (.iconst 5, 1) := by decide +kernel
theorem d222_144 : decode prog_14_method_21_code 144 = .ok (.aload_n 0, 1) := by decide +kernel
theorem d222_145 : decode prog_14_method_21_code 145 = .ok (.getfield 151, 3) := by decide +kernel
theorem d222_148 : decode prog_14_method_21_code 148 = .ok (.invokevirtual 144, 3) := by decide +kernel
theorem d222_151 : decode prog_14_method_21_code 151 = .ok (.return_, 1) := by decide +kernel
theorem d222_152 : decode prog_14_method_21_code 152 = .ok (.aload_n 0, 1) := by decide +kernel
theorem d222_153 : decode prog_14_method_21_code 153 = .ok (.iconst 3, 1) := by decide +kernel
theorem d222_154 : decode prog_14_method_21_code 154 = .ok (.putfield 157, 3) := by decide +kernel
theorem d222_157 : decode prog_14_method_21_code 157 = .ok (.aload_n 0, 1) := by decide +kernel
theorem d222_158 : decode prog_14_method_21_code 158 = .ok (.sipush 256, 3) := by decide +kernel
theorem d222_161 : decode prog_14_method_21_code 161 = .ok (.iload_n 3, 1) := by decide +kernel
theorem d222_162 : decode prog_14_method_21_code 162 = .ok (.imul, 1) := by decide +kernel
theorem d222_163 : decode prog_14_method_21_code 163 = .ok (.lload 4, 2) := by decide +kernel
theorem d222_165 : decode prog_14_method_21_code 165 = .ok (.l2i, 1) := by decide +kernel
theorem d222_166 : decode prog_14_method_21_code 166 = .ok (.iadd, 1) := by decide +kernel
theorem d222_167 : decode prog_14_method_21_code 167 = .ok (.putfield 154, 3) := by decide +kernel
theorem d222_170 : decode prog_14_method_21_code 170 = .ok (.return_, 1) := by decide +kernel
theorem m222 : pm_m 222 = some (⟨"TypeRulesModel", "placeToken", "()V"⟩, prog_14_method_21_code, 6, none, 10, 0, 11) := rfl
theorem d223_0 : decode prog_14_method_15_code 0 = .ok (.aload_n 0, 1) := by decide +kernel
theorem d223_1 : decode prog_14_method_15_code 1 = .ok (.iconst 1, 1) := by decide +kernel
theorem d223_2 : decode prog_14_method_15_code 2 = .ok (.invokevirtual 141, 3) := by decide +kernel
theorem d223_5 : decode prog_14_method_15_code 5 = .ok (.istore_n 2, 1) := by decide +kernel
theorem d223_6 : decode prog_14_method_15_code 6 = .ok (.iload_n 1, 1) := by decide +kernel
theorem d223_7 : decode prog_14_method_15_code 7 = .ok (.bipush 58, 2) := by decide +kernel
theorem d223_9 : decode prog_14_method_15_code 9 = .ok (.if_icmp .ne 15, 3) := by decide +kernel
theorem d223_12 : decode prog_14_method_15_code 12 = .ok (.iload_n 2, 1) := by decide +kernel
theorem d223_13 : decode prog_14_method_15_code 13 = .ok (.bipush 61, 2) := by decide +kernel
theorem d223_15 : decode prog_14_method_15_code 15 = .ok (.if_icmp .ne 9, 3) := by decide +kernel
theorem d223_18 : decode prog_14_method_15_code 18 = .ok (.sipush 400, 3) := by decide +kernel
theorem d223_21 : decode prog_14_method_15_code 21 = .ok (.goto 76, 3) := by decide +kernel
theorem d223_24 : decode prog_14_method_15_code 24 = .ok (.iload_n 1, 1) := by decide +kernel
theorem d223_25 : decode prog_14_method_15_code 25 = .ok (.bipush 46, 2) := by decide +kernel
theorem d223_27 : decode prog_14_method_15_code 27 = .ok (.if_icmp .ne 15, 3) := by decide +kernel
theorem d223_30 : decode prog_14_method_15_code 30 = .ok (.iload_n 2, 1) := by decide +kernel
theorem d223_31 : decode prog_14_method_15_code 31 = .ok (.bipush 46, 2) := by decide +kernel
theorem d223_33 : decode prog_14_method_15_code 33 = .ok (.if_icmp .ne 9, 3) := by decide +kernel
theorem d223_36 : decode prog_14_method_15_code 36 = .ok (.sipush 401, 3) := by decide +kernel
theorem d223_39 : decode prog_14_method_15_code 39 = .ok (.goto 58, 3) := by decide +kernel
theorem d223_42 : decode prog_14_method_15_code 42 = .ok (.iload_n 1, 1) := by decide +kernel
theorem d223_43 : decode prog_14_method_15_code 43 = .ok (.bipush 60, 2) := by decide +kernel
theorem d223_45 : decode prog_14_method_15_code 45 = .ok (.if_icmp .ne 15, 3) := by decide +kernel
theorem d223_48 : decode prog_14_method_15_code 48 = .ok (.iload_n 2, 1) := by decide +kernel
theorem d223_49 : decode prog_14_method_15_code 49 = .ok (.bipush 61, 2) := by decide +kernel
theorem d223_51 : decode prog_14_method_15_code 51 = .ok (.if_icmp .ne 9, 3) := by decide +kernel
theorem d223_54 : decode prog_14_method_15_code 54 = .ok (.sipush 402, 3) := by decide +kernel
theorem d223_57 : decode prog_14_method_15_code 57 = .ok (.goto 40, 3) := by decide +kernel
theorem d223_60 : decode prog_14_method_15_code 60 = .ok (.iload_n 1, 1) := by decide +kernel
theorem d223_61 : decode prog_14_method_15_code 61 = .ok (.bipush 62, 2) := by decide +kernel
theorem d223_63 : decode prog_14_method_15_code 63 = .ok (.if_icmp .ne 15, 3) := by decide +kernel
theorem d223_66 : decode prog_14_method_15_code 66 = .ok (.iload_n 2, 1) := by decide +kernel
theorem d223_67 : decode prog_14_method_15_code 67 = .ok (.bipush 61, 2) := by decide +kernel
theorem d223_69 : decode prog_14_method_15_code 69 = .ok (.if_icmp .ne 9, 3) := by decide +kernel
theorem d223_72 : decode prog_14_method_15_code 72 = .ok (.sipush 403, 3) := by decide +kernel
theorem d223_75 : decode prog_14_method_15_code 75 = .ok (.goto 22, 3) := by decide +kernel
theorem d223_78 : decode prog_14_method_15_code 78 = .ok (.iload_n 1, 1) := by decide +kernel
theorem d223_79 : decode prog_14_method_15_code 79 = .ok (.bipush 60, 2) := by decide +kernel
theorem d223_81 : decode prog_14_method_15_code 81 = .ok (.if_icmp .ne 15, 3) := by decide +kernel
theorem d223_84 : decode prog_14_method_15_code 84 = .ok (.iload_n 2, 1) := by decide +kernel
theorem d223_85 : decode prog_14_method_15_code 85 = .ok (.bipush 62, 2) := by decide +kernel
theorem d223_87 : decode prog_14_method_15_code 87 = .ok (.if_icmp .ne 9, 3) := by decide +kernel
theorem d223_90 : decode prog_14_method_15_code 90 = .ok (.sipush 404, 3) := by decide +kernel
theorem d223_93 : decode prog_14_method_15_code 93 = .ok (.goto 4, 3) := by decide +kernel
theorem d223_96 : decode prog_14_method_15_code 96 = .ok (.iconst 0, 1) := by decide +kernel
theorem d223_97 : decode prog_14_method_15_code 97 = .ok (.istore_n 3, 1) := by decide +kernel
theorem d223_98 : decode prog_14_method_15_code 98 = .ok (.iload_n 3, 1) := by decide +kernel
theorem d223_99 : decode prog_14_method_15_code 99 = .ok (.ifCond .le 19, 3) := by decide +kernel
theorem d223_102 : decode prog_14_method_15_code 102 = .ok (.aload_n 0, 1) := by decide +kernel
theorem d223_103 : decode prog_14_method_15_code 103 = .ok (.iload_n 3, 1) := by decide +kernel
theorem d223_104 : decode prog_14_method_15_code 104 = .ok (.putfield 157, 3) := by decide +kernel
theorem d223_107 : decode prog_14_method_15_code 107 = .ok (.aload_n 0, 1) := by decide +kernel
theorem d223_108 : decode prog_14_method_15_code 108 = .ok (.dup, 1) := by decide +kernel
theorem d223_109 : decode prog_14_method_15_code 109 = .ok (.getfield 121, 3) := by decide +kernel
theorem d223_112 : decode prog_14_method_15_code 112 = .ok (.iconst 2, 1) := by decide +kernel
theorem d223_113 : decode prog_14_method_15_code 113 = .ok (.iadd, 1) := by decide +kernel
theorem d223_114 : decode prog_14_method_15_code 114 = .ok (.putfield 121, 3) := by decide +kernel
theorem d223_117 : decode prog_14_method_15_code 117 = .ok (.return_, 1) := by decide +kernel
theorem d223_118 : decode prog_14_method_15_code 118 = .ok (.iload_n 1, 1) := by decide +kernel
theorem d223_119 : decode prog_14_method_15_code 119 = .ok (.bipush 40, 2) := by decide +kernel
theorem d223_121 : decode prog_14_method_15_code 121 = .ok (.if_icmp .lt 9, 3) := by decide +kernel
theorem d223_124 : decode prog_14_method_15_code 124 = .ok (.iload_n 1, 1) := by decide +kernel
theorem d223_125 : decode prog_14_method_15_code 125 = .ok (.bipush 47, 2) := by decide +kernel
theorem d223_127 : decode prog_14_method_15_code 127 = .ok (.if_icmp .le 39, 3) := by decide +kernel
theorem d223_130 : decode prog_14_method_15_code 130 = .ok (.iload_n 1, 1) := by decide +kernel
theorem d223_131 : decode prog_14_method_15_code 131 = .ok (.bipush 58, 2) := by decide +kernel
theorem d223_133 : decode prog_14_method_15_code 133 = .ok (.if_icmp .lt 9, 3) := by decide +kernel
theorem d223_136 : decode prog_14_method_15_code 136 = .ok (.iload_n 1, 1) := by decide +kernel
theorem d223_137 : decode prog_14_method_15_code 137 = .ok (.bipush 62, 2) := by decide +kernel
theorem d223_139 : decode prog_14_method_15_code 139 = .ok (.if_icmp .le 27, 3) := by decide +kernel
theorem d223_142 : decode prog_14_method_15_code 142 = .ok (.iload_n 1, 1) := by decide +kernel
theorem d223_143 : decode prog_14_method_15_code 143 = .ok (.bipush 91, 2) := by decide +kernel
theorem d223_145 : decode prog_14_method_15_code 145 = .ok (.if_icmp .eq 21, 3) := by decide +kernel
theorem d223_148 : decode prog_14_method_15_code 148 = .ok (.iload_n 1, 1) := by decide +kernel
theorem d223_149 : decode prog_14_method_15_code 149 = .ok (.bipush 93, 2) := by decide +kernel
theorem d223_151 : decode prog_14_method_15_code 151 = .ok (.if_icmp .eq 15, 3) := by decide +kernel
theorem d223_154 : decode prog_14_method_15_code 154 = .ok (.iload_n 1, 1) := by decide +kernel
theorem d223_155 : decode prog_14_method_15_code 155 = .ok (.bipush 38, 2) := by decide +kernel
theorem d223_157 : decode prog_14_method_15_code 157 = .ok (.if_icmp .eq 9, 3) := by decide +kernel
theorem d223_160 : decode prog_14_method_15_code 160 = .ok (.iload_n 1, 1) := by decide +kernel
theorem d223_161 : decode prog_14_method_15_code 161 = .ok (.bipush 124, 2) := by decide +kernel
theorem d223_163 : decode prog_14_method_15_code 163 = .ok (.if_icmp .ne 7, 3) := by decide +kernel
theorem d223_166 : decode prog_14_method_15_code 166 = .ok (.iconst 1, 1) := by decide +kernel
theorem d223_167 : decode prog_14_method_15_code 167 = .ok (.goto 4, 3) := by decide +kernel
theorem d223_170 : decode prog_14_method_15_code 170 = .ok (.iconst 0, 1) := by decide +kernel
theorem d223_171 : decode prog_14_method_15_code 171 = .ok (.istore 4, 2) := by decide +kernel
theorem d223_173 : decode prog_14_method_15_code 173 = .ok (.iload 4, 2) := by decide +kernel
theorem d223_175 : decode prog_14_method_15_code 175 = .ok (.ifCond .ne 13, 3) := by decide +kernel
theorem d223_178 : decode prog_14_method_15_code 178 = .ok (.aload_n 0, 1) := by decide +kernel
theorem d223_179 : decode prog_14_method_15_code 179 = .ok (.iconst 1, 1) := by decide +kernel
theorem d223_180 : decode prog_14_method_15_code 180 = .ok (.aload_n 0, 1) := by decide +kernel
theorem d223_181 : decode prog_14_method_15_code 181 = .ok (.getfield 121, 3) := by decide +kernel
theorem d223_184 : decode prog_14_method_15_code 184 = .ok (.invokevirtual 144, 3) := by decide +kernel
theorem d223_187 : decode prog_14_method_15_code 187 = .ok (.return_, 1) := by decide +kernel
theorem d223_188 : decode prog_14_method_15_code 188 = .ok (.aload_n 0, 1) := by decide +kernel
theorem d223_189 : decode prog_14_method_15_code 189 = .ok (.sipush 200, 3) := by decide +kernel
theorem d223_192 : decode prog_14_method_15_code 192 = .ok (.iload_n 1, 1) := by decide +kernel
theorem d223_193 : decode prog_14_method_15_code 193 = .ok (.iadd, 1) := by decide +kernel
theorem d223_194 : decode prog_14_method_15_code 194 = .ok (.putfield 157, 3) := by decide +kernel
theorem d223_197 : decode prog_14_method_15_code 197 = .ok (.aload_n 0, 1) := by decide +kernel
theorem d223_198 : decode prog_14_method_15_code 198 = .ok (.dup, 1) := by decide +kernel
theorem d223_199 : decode prog_14_method_15_code 199 = .ok (.getfield 121, 3) := by decide +kernel
theorem d223_202 : decode prog_14_method_15_code 202 = .ok (.iconst 1, 1) := by decide +kernel
theorem d223_203 : decode prog_14_method_15_code 203 = .ok (.iadd, 1) := by decide +kernel
theorem d223_204 : decode prog_14_method_15_code 204 = .ok (.putfield 121, 3) := by decide +kernel
theorem d223_207 : decode prog_14_method_15_code 207 = .ok (.return_, 1) := by decide +kernel
theorem m223 : pm_m 223 = some (⟨"TypeRulesModel", "sign", "(I)V"⟩, prog_14_method_15_code, 5, none, 10, 1, 11) := rfl
theorem d204_0 : decode prog_14_method_13_code 0 = .ok (.iconst 1, 1) := by decide +kernel
theorem d204_1 : decode prog_14_method_13_code 1 = .ok (.istore_n 1, 1) := by decide +kernel
theorem d204_2 : decode prog_14_method_13_code 2 = .ok (.iload_n 1, 1) := by decide +kernel
theorem d204_3 : decode prog_14_method_13_code 3 = .ok (.ifCond .eq 153, 3) := by decide +kernel
theorem d204_6 : decode prog_14_method_13_code 6 = .ok (.aload_n 0, 1) := by decide +kernel
theorem d204_7 : decode prog_14_method_13_code 7 = .ok (.getfield 135, 3) := by decide +kernel
theorem d204_10 : decode prog_14_method_13_code 10 = .ok (.ifCond .ne 146, 3) := by decide +kernel
theorem d204_13 : decode prog_14_method_13_code 13 = .ok (.aload_n 0, 1) := by decide +kernel
theorem d204_14 : decode prog_14_method_13_code 14 = .ok (.iconst 0, 1) := by decide +kernel
theorem d204_15 : decode prog_14_method_13_code 15 = .ok (.invokevirtual 141, 3) := by decide +kernel
theorem d204_18 : decode prog_14_method_13_code 18 = .ok (.istore_n 2, 1) := by decide +kernel
theorem d204_19 : decode prog_14_method_13_code 19 = .ok (.iload_n 2, 1) := by decide +kernel
theorem d204_20 : decode prog_14_method_13_code 20 = .ok (.bipush 9, 2) := by decide +kernel
theorem d204_22 : decode prog_14_method_13_code 22 = .ok (.if_icmp .eq 21, 3) := by decide +kernel
theorem d204_25 : decode prog_14_method_13_code 25 = .ok (.iload_n 2, 1) := by decide +kernel
theorem d204_26 : decode prog_14_method_13_code 26 = .ok (.bipush 10, 2) := by decide +kernel
theorem d204_28 : decode prog_14_method_13_code 28 = .ok (.if_icmp .eq 15, 3) := by decide +kernel
theorem d204_31 : decode prog_14_method_13_code 31 = .ok (.iload_n 2, 1) := by decide +kernel
theorem d204_32 : decode prog_14_method_13_code 32 = .ok (.bipush 13, 2) := by decide +kernel
theorem d204_34 : decode prog_14_method_13_code 34 = .ok (.if_icmp .eq 9, 3) := by decide +kernel
theorem d204_37 : decode prog_14_method_13_code 37 = .ok (.iload_n 2, 1) := by decide +kernel
theorem d204_38 : decode prog_14_method_13_code 38 = .ok (.bipush 32, 2) := by decide +kernel
theorem d204_40 : decode prog_14_method_13_code 40 = .ok (.if_icmp .ne 16, 3) := by decide +kernel
theorem d204_43 : decode prog_14_method_13_code 43 = .ok (.aload_n 0, 1) := by decide +kernel
theorem d204_44 : decode prog_14_method_13_code 44 = .ok (.dup, 1) := by decide +kernel
theorem d204_45 : decode prog_14_method_13_code 45 = .ok (.getfield 121, 3) := by decide +kernel
theorem d204_48 : decode prog_14_method_13_code 48 = .ok (.iconst 1, 1) := by decide +kernel
theorem d204_49 : decode prog_14_method_13_code 49 = .ok (.iadd, 1) := by decide +kernel
theorem d204_50 : decode prog_14_method_13_code 50 = .ok (.putfield 121, 3) := by decide +kernel
theorem d204_53 : decode prog_14_method_13_code 53 = .ok (.goto 100, 3) := by decide +kernel
theorem d204_56 : decode prog_14_method_13_code 56 = .ok (.iload_n 2, 1) := by decide +kernel
theorem d204_57 : decode prog_14_method_13_code 57 = .ok (.bipush 40, 2) := by decide +kernel
theorem d204_59 : decode prog_14_method_13_code 59 = .ok (.if_icmp .ne 92, 3) := by decide +kernel
theorem d204_62 : decode prog_14_method_13_code 62 = .ok (.aload_n 0, 1) := by decide +kernel
theorem d204_63 : decode prog_14_method_13_code 63 = .ok (.iconst 1, 1) := by decide +kernel
theorem d204_64 : decode prog_14_method_13_code 64 = .ok (.invokevirtual 141, 3) := by decide +kernel
theorem d204_67 : decode prog_14_method_13_code 67 = .ok (.bipush 42, 2) := by decide +kernel
theorem d204_69 : decode prog_14_method_13_code 69 = .ok (.if_icmp .ne 82, 3) := by decide +kernel
theorem d204_72 : decode prog_14_method_13_code 72 = .ok (.aload_n 0, 1) := by decide +kernel
theorem d204_73 : decode prog_14_method_13_code 73 = .ok (.getfield 121, 3) := by decide +kernel
theorem d204_76 : decode prog_14_method_13_code 76 = .ok (.iconst 2, 1) := by decide +kernel
theorem d204_77 : decode prog_14_method_13_code 77 = .ok (.iadd, 1) := by decide +kernel
theorem d204_78 : decode prog_14_method_13_code 78 = .ok (.istore_n 3, 1) := by decide +kernel
theorem d204_79 : decode prog_14_method_13_code 79 = .ok (.iload_n 3, 1) := by decide +kernel
theorem d204_80 : decode prog_14_method_13_code 80 = .ok (.iconst 1, 1) := by decide +kernel
theorem d204_81 : decode prog_14_method_13_code 81 = .ok (.iadd, 1) := by decide +kernel
theorem d204_82 : decode prog_14_method_13_code 82 = .ok (.aload_n 0, 1) := by decide +kernel
theorem d204_83 : decode prog_14_method_13_code 83 = .ok (.getfield 114, 3) := by decide +kernel
theorem d204_86 : decode prog_14_method_13_code 86 = .ok (.if_icmp .ge 33, 3) := by decide +kernel
theorem d204_89 : decode prog_14_method_13_code 89 = .ok (.aload_n 0, 1) := by decide +kernel
theorem d204_90 : decode prog_14_method_13_code 90 = .ok (.getfield 7, 3) := by decide +kernel
theorem d204_93 : decode prog_14_method_13_code 93 = .ok (.iload_n 3, 1) := by decide +kernel
theorem d204_94 : decode prog_14_method_13_code 94 = .ok (.iaload, 1) := by decide +kernel
theorem d204_95 : decode prog_14_method_13_code 95 = .ok (.bipush 42, 2) := by decide +kernel
theorem d204_97 : decode prog_14_method_13_code 97 = .ok (.if_icmp .ne 16, 3) := by decide +kernel
theorem d204_100 : decode prog_14_method_13_code 100 = .ok (.aload_n 0, 1) := by decide +kernel
theorem d204_101 : decode prog_14_method_13_code 101 = .ok (.getfield 7, 3) := by decide +kernel
theorem d204_104 : decode prog_14_method_13_code 104 = .ok (.iload_n 3, 1) := by decide +kernel
theorem d204_105 : decode prog_14_method_13_code 105 = .ok (.iconst 1, 1) := by decide +kernel
theorem d204_106 : decode prog_14_method_13_code 106 = .ok (.iadd, 1) := by decide +kernel
theorem d204_107 : decode prog_14_method_13_code 107 = .ok (.iaload, 1) := by decide +kernel
theorem d204_108 : decode prog_14_method_13_code 108 = .ok (.bipush 41, 2) := by decide +kernel
theorem d204_110 : decode prog_14_method_13_code 110 = .ok (.if_icmp .eq 9, 3) := by decide +kernel
theorem d204_113 : decode prog_14_method_13_code 113 = .ok (.iinc 3 1, 3) := by decide +kernel
theorem d204_116 : decode prog_14_method_13_code 116 = .ok (.goto (-37), 3) := by decide +kernel
theorem d204_119 : decode prog_14_method_13_code 119 = .ok (.iload_n 3, 1) := by decide +kernel
theorem d204_120 : decode prog_14_method_13_code 120 = .ok (.iconst 1, 1) := by decide +kernel
theorem d204_121 : decode prog_14_method_13_code 121 = .ok (.iadd, 1) := by decide +kernel
theorem d204_122 : decode prog_14_method_13_code 122 = .ok (.aload_n 0, 1) := by decide +kernel
theorem d204_123 : decode prog_14_method_13_code 123 = .ok (.getfield 114, 3) := by decide +kernel
theorem d204_126 : decode prog_14_method_13_code 126 = .ok (.if_icmp .ge 13, 3) := by decide +kernel
theorem d204_129 : decode prog_14_method_13_code 129 = .ok (.aload_n 0, 1) := by decide +kernel
theorem d204_130 : decode prog_14_method_13_code 130 = .ok (.iload_n 3, 1) := by decide +kernel
theorem d204_131 : decode prog_14_method_13_code 131 = .ok (.iconst 2, 1) := by decide +kernel
theorem d204_132 : decode prog_14_method_13_code 132 = .ok (.iadd, 1) := by decide +kernel
theorem d204_133 : decode prog_14_method_13_code 133 = .ok (.putfield 121, 3) := by decide +kernel
theorem d204_136 : decode prog_14_method_13_code 136 = .ok (.goto 12, 3) := by decide +kernel
theorem d204_139 : decode prog_14_method_13_code 139 = .ok (.aload_n 0, 1) := by decide +kernel
theorem d204_140 : decode prog_14_method_13_code 140 = .ok (.iconst 2, 1) := by decide +kernel
theorem d204_141 : decode prog_14_method_13_code 141 = .ok (.aload_n 0, 1) := by decide +kernel
theorem d204_142 : decode prog_14_method_13_code 142 = .ok (.getfield 121, 3) := by decide +kernel
theorem d204_145 : decode prog_14_method_13_code 145 = .ok (.invokevirtual 144, 3) := by decide +kernel
theorem d204_148 : decode prog_14_method_13_code 148 = .ok (.goto 5, 3) := by decide +kernel
theorem d204_151 : decode prog_14_method_13_code 151 = .ok (.iconst 0, 1) := by decide +kernel
theorem d204_152 : decode prog_14_method_13_code 152 = .ok (.istore_n 1, 1) := by decide +kernel
theorem d204_153 : decode prog_14_method_13_code 153 = .ok (.goto (-151), 3) := by decide +kernel
theorem d204_156 : decode prog_14_method_13_code 156 = .ok (.return_, 1) := by decide +kernel
theorem m204 : pm_m 204 = some (⟨"TypeRulesModel", "skip", "()V"⟩, prog_14_method_13_code, 4, none, 10, 0, 11) := rfl
theorem rx_vn {t : Nat → Nat} {M b p : Nat} (h : lx_de t M b p ≠ p) : rx_v t M b p = lN (min (lx_dv t M b p 0) 4000000000) := if_neg h
theorem rx_vm {t : Nat → Nat} {M b p : Nat} (h : lx_de t M b p = p) : rx_v t M b p = -1 := if_pos h
theorem rx_w {v : Nat} : min v 4000000000 < 2 ^ 62 ∧ (2147483647 < min v 4000000000 ↔ 2147483647 < v) ∧ (v ≤ 2147483647 → min v 4000000000 = v) := by omega
theorem lN_m1 {n : Nat} (h : n < 2 ^ 62) : ¬ lN n = -1 := fun z => by
  have := congrArg Int64.toInt z
  rw [lN_t h, show (-1 : Int64).toInt = -1 from rfl] at this
  omega
theorem sp221 {d : Nat} {σ : pm_S} {Q : Option Value → pm_S → Prop} {t : Nat → Nat} {M : Nat} {p : Nat} (hT : rx_T σ t M) (h0 : rx_0 σ p) (hp : p < M) (hd : lx_dg (t p) = true) (hQ : rx_Q Q σ p (lx_num t M p)) : pm_call pm_Y0 (d + 5) 221 [.ref 10] (rs σ p) Q := by
  have hM := hT.2.1
  have ht := hT.2.2.2
  have hdk : lx_dk (t p) < 10 := by
    have hd : (48 : Int) ≤ t p ∧ (t p : Int) ≤ 57 := by unfold lx_dg at hd; simpa using hd
    unfold lx_dk; rw [if_pos (by omega)]; omega
  have b1 : p + 1 ≤ lx_de t M 10 p := by rw [lx_de_u, if_pos ⟨hp, hdk⟩]; exact lx_deB.1
  have hde : lx_de t M 10 p ≤ M := lx_deB.2 (by omega)
  have hv := rx_vn (t := t) (M := M) (b := 10) (p := p) (by omega)
  generalize hE : lx_de t M 10 p = e at *
  generalize hV : lx_dv t M 10 p 0 = V at *
  have e0 := lx_ci (M := M) ht e
  have ew := lN_t (n := min V 4000000000) (by omega)
  have hf : ¬ lx_i t M e = 35 → rx_Q Q σ p (lx_fin t M e V) := fun h => by rw [show lx_num t M p = lx_fin t M e V from by unfold lx_num; rw [hE, hV]; exact if_neg h] at hQ; exact hQ
  have hbad : lx_i t M e = 35 → ¬ ((V = 16 ∨ V = 2) ∧ lx_de t M V (e + 1) ≠ e + 1) → ∀ e', Q none (pm_pi (pm_pi (rs σ e') 10 6 4) 10 7 (nI p)) := fun h h' e' => by
    rw [show lx_num t M p = (45, 4, p) from by unfold lx_num; rw [hE, hV, if_pos h]; exact if_neg h'] at hQ
    exact hQ.1 rfl e'
  have hgd : lx_i t M e = 35 → ((V = 16 ∨ V = 2) ∧ lx_de t M V (e + 1) ≠ e + 1) → rx_Q Q σ p (lx_fin t M (lx_de t M V (e + 1)) (lx_dv t M V (e + 1) 0)) := fun h h' => by
    rw [show lx_num t M p = lx_fin t M (lx_de t M V (e + 1)) (lx_dv t M V (e + 1) 0) from by unfold lx_num; rw [hE, hV, if_pos h]; exact if_pos h'] at hQ
    exact hQ
  have h35 : lx_i t M e = 35 → e < M := fun h => lx_i_in (t := t) (M := M) (p := e) (fun z => by rw [h] at z; exact absurd z (by decide))
  clear hQ
  refine wq_m m221 (Nat.le_of_ble_eq_true rfl) (by decide) rfl ?_
  refine wq_l 1 d221_0 rfl rfl rfl rfl ?_
  refine wq_k 3 10 d221_1 (by decide) rfl ?_
  refine wq_v 6 [_] d221_3 rfl rfl m208 rfl rfl (Nat.le_of_ble_eq_true rfl) rfl (sp208 (b := 10) hT (by decide) (by omega) ?_)
  rw [hE, hv]
  refine wq_s 7 d221_6 rfl rfl (Nat.le_of_ble_eq_true rfl) rfl rfl ?_
  refine wq_l 8 d221_7 rfl rfl rfl rfl ?_
  refine wq_k 9 0 d221_8 (by decide) rfl ?_
  refine wq_v 12 [_] d221_9 rfl rfl m205 rfl rfl (Nat.le_of_ble_eq_true rfl) rfl (sp205z hT (by omega) ?_)
  refine wq_k 14 35 d221_12 (by decide) rfl ?_
  refine wq_b 23 17 d221_14 rfl (by decide) rfl (fun c14 => ?_) (fun c14 => ?_)
  · -- pc 23
    have q35 : lx_i t M e = 35 := by have z := c14; simp only [i_lt, i_le, i_eq, ne_eq, Int32.reduceToInt, b2_0, b2_1, decide_eq_true_eq, decide_eq_false_iff_not, Bool.not_eq_true, Bool.not_eq_false, e0] at z; omega
    have q35M := h35 q35
    refine wq_l 24 d221_23 rfl rfl rfl rfl ?_
    refine wq_a 25 d221_24 rfl rfl ?_
    refine wq_gi (ci := 10) (j := 2) 28 d221_25 rfl rfl rfl rfl ?_
    rw [rs_2]
    refine wq_k 29 1 d221_28 (by decide) rfl ?_
    refine wq_a 30 d221_29 rfl rfl ?_
    refine wq_pf (ci := 10) (j := 2) 33 d221_30 rfl rfl rfl ⟨rfl, rfl⟩ rfl ?_
    rw [show nI e + 1 = nI (e + 1) from (nI_succ e).symm, rs_p]
    refine wq_l 34 d221_33 rfl rfl rfl rfl ?_
    refine wq_l 35 d221_34 rfl rfl rfl rfl ?_
    refine wq_cl 38 d221_35 rfl rfl ?_
    refine wq_a 39 d221_38 rfl rfl ?_
    refine wq_b 50 42 d221_39 rfl (by decide) rfl (fun c39 => ?_) (fun c39 => ?_)
    · -- pc 50
      have qV : V = 16 ∨ V = 2 := by first | (have z := c39; simp only [lc_eq, ew, Int64.reduceToInt] at z; omega) | (have z := c47; simp only [lc_eq, ew, Int64.reduceToInt, ne_eq, Classical.not_not] at z; omega)
      have qm : min V 4000000000 = V := by omega
      have b2 := lx_deB (t := t) (M := M) (b := V) (p := e + 1)
      refine wq_l 51 d221_50 rfl rfl rfl rfl ?_
      refine wq_l 52 d221_51 rfl rfl rfl rfl ?_
      refine wq_a 53 d221_52 rfl rfl ?_
      rw [lN_i, qm]
      refine wq_v 56 [_] d221_53 rfl rfl m208 rfl rfl (Nat.le_of_ble_eq_true rfl) rfl (sp208 hT (by omega) (by omega) ?_)
      refine wq_g 62 d221_56 (by decide) ?_
      first
        | (refine wq_v 65 [_] d221_62 rfl rfl m212 rfl rfl (Nat.le_of_ble_eq_true rfl) rfl (sp212 (x := min (lx_dv t M V (e + 1) 0) 4000000000) (v := lx_dv t M V (e + 1) 0) hT h0 (by omega) (by
             by_cases q : lx_de t M V (e + 1) = e + 1
             · exact Or.inl (rx_vm q)
             · exact Or.inr ⟨rx_vn q, rx_w.1, rx_w.2.1, rx_w.2.2⟩) ?_)
           by_cases q : lx_de t M V (e + 1) = e + 1
           · rw [if_pos (rx_vm q)]
             refine ⟨fun _ e' => ?_, fun z => absurd rfl z⟩
             exact wq_rv d221_65 (hbad q35 (fun z => z.2 q) e')
           · rw [if_neg (by rw [rx_vn q]; exact lN_m1 (by omega))]
             exact ⟨fun z e' => wq_rv d221_65 ((hgd q35 ⟨qV, q⟩).1 z e'), fun z => wq_rv d221_65 ((hgd q35 ⟨qV, q⟩).2 z)⟩)
        | (have qV : ¬ (V = 16 ∨ V = 2) := by have z1 := c39; have z2 := c47; simp only [lc_eq, ew, Int64.reduceToInt, ne_eq, Classical.not_not] at z1 z2; omega
           refine wq_v 65 [_] d221_62 rfl rfl m212 rfl rfl (Nat.le_of_ble_eq_true rfl) rfl (sp212 (x := 0) (v := 0) hT h0 (by omega) (Or.inl rfl) ?_)
           rw [if_pos rfl]
           refine ⟨fun _ e' => ?_, fun z => absurd rfl z⟩
           exact wq_rv d221_65 (hbad q35 (fun z => qV z.1) e'))
    · -- pc 42
      refine wq_l 43 d221_42 rfl rfl rfl rfl ?_
      refine wq_cl 46 d221_43 rfl rfl ?_
      refine wq_a 47 d221_46 rfl rfl ?_
      refine wq_b 59 50 d221_47 rfl (by decide) rfl (fun c47 => ?_) (fun c47 => ?_)
      · -- pc 59
        refine wq_cl 62 d221_59 rfl rfl ?_
        first
          | (refine wq_v 65 [_] d221_62 rfl rfl m212 rfl rfl (Nat.le_of_ble_eq_true rfl) rfl (sp212 (x := min (lx_dv t M V (e + 1) 0) 4000000000) (v := lx_dv t M V (e + 1) 0) hT h0 (by omega) (by
               by_cases q : lx_de t M V (e + 1) = e + 1
               · exact Or.inl (rx_vm q)
               · exact Or.inr ⟨rx_vn q, rx_w.1, rx_w.2.1, rx_w.2.2⟩) ?_)
             by_cases q : lx_de t M V (e + 1) = e + 1
             · rw [if_pos (rx_vm q)]
               refine ⟨fun _ e' => ?_, fun z => absurd rfl z⟩
               exact wq_rv d221_65 (hbad q35 (fun z => z.2 q) e')
             · rw [if_neg (by rw [rx_vn q]; exact lN_m1 (by omega))]
               exact ⟨fun z e' => wq_rv d221_65 ((hgd q35 ⟨qV, q⟩).1 z e'), fun z => wq_rv d221_65 ((hgd q35 ⟨qV, q⟩).2 z)⟩)
          | (have qV : ¬ (V = 16 ∨ V = 2) := by have z1 := c39; have z2 := c47; simp only [lc_eq, ew, Int64.reduceToInt, ne_eq, Classical.not_not] at z1 z2; omega
             refine wq_v 65 [_] d221_62 rfl rfl m212 rfl rfl (Nat.le_of_ble_eq_true rfl) rfl (sp212 (x := 0) (v := 0) hT h0 (by omega) (Or.inl rfl) ?_)
             rw [if_pos rfl]
             refine ⟨fun _ e' => ?_, fun z => absurd rfl z⟩
             exact wq_rv d221_65 (hbad q35 (fun z => qV z.1) e'))
      · -- pc 50
        have qV : V = 16 ∨ V = 2 := by first | (have z := c39; simp only [lc_eq, ew, Int64.reduceToInt] at z; omega) | (have z := c47; simp only [lc_eq, ew, Int64.reduceToInt, ne_eq, Classical.not_not] at z; omega)
        have qm : min V 4000000000 = V := by omega
        have b2 := lx_deB (t := t) (M := M) (b := V) (p := e + 1)
        refine wq_l 51 d221_50 rfl rfl rfl rfl ?_
        refine wq_l 52 d221_51 rfl rfl rfl rfl ?_
        refine wq_a 53 d221_52 rfl rfl ?_
        rw [lN_i, qm]
        refine wq_v 56 [_] d221_53 rfl rfl m208 rfl rfl (Nat.le_of_ble_eq_true rfl) rfl (sp208 hT (by omega) (by omega) ?_)
        refine wq_g 62 d221_56 (by decide) ?_
        first
          | (refine wq_v 65 [_] d221_62 rfl rfl m212 rfl rfl (Nat.le_of_ble_eq_true rfl) rfl (sp212 (x := min (lx_dv t M V (e + 1) 0) 4000000000) (v := lx_dv t M V (e + 1) 0) hT h0 (by omega) (by
               by_cases q : lx_de t M V (e + 1) = e + 1
               · exact Or.inl (rx_vm q)
               · exact Or.inr ⟨rx_vn q, rx_w.1, rx_w.2.1, rx_w.2.2⟩) ?_)
             by_cases q : lx_de t M V (e + 1) = e + 1
             · rw [if_pos (rx_vm q)]
               refine ⟨fun _ e' => ?_, fun z => absurd rfl z⟩
               exact wq_rv d221_65 (hbad q35 (fun z => z.2 q) e')
             · rw [if_neg (by rw [rx_vn q]; exact lN_m1 (by omega))]
               exact ⟨fun z e' => wq_rv d221_65 ((hgd q35 ⟨qV, q⟩).1 z e'), fun z => wq_rv d221_65 ((hgd q35 ⟨qV, q⟩).2 z)⟩)
          | (have qV : ¬ (V = 16 ∨ V = 2) := by have z1 := c39; have z2 := c47; simp only [lc_eq, ew, Int64.reduceToInt, ne_eq, Classical.not_not] at z1 z2; omega
             refine wq_v 65 [_] d221_62 rfl rfl m212 rfl rfl (Nat.le_of_ble_eq_true rfl) rfl (sp212 (x := 0) (v := 0) hT h0 (by omega) (Or.inl rfl) ?_)
             rw [if_pos rfl]
             refine ⟨fun _ e' => ?_, fun z => absurd rfl z⟩
             exact wq_rv d221_65 (hbad q35 (fun z => qV z.1) e'))
  · -- pc 17
    have q35 : ¬ lx_i t M e = 35 := by have z := c14; simp only [i_lt, i_le, i_eq, ne_eq, Int32.reduceToInt, b2_0, b2_1, decide_eq_true_eq, decide_eq_false_iff_not, Bool.not_eq_true, Bool.not_eq_false, e0] at z; omega
    refine wq_l 18 d221_17 rfl rfl rfl rfl ?_
    refine wq_l 19 d221_18 rfl rfl rfl rfl ?_
    refine wq_v 22 [_] d221_19 rfl rfl m212 rfl rfl (Nat.le_of_ble_eq_true rfl) rfl (sp212 (x := min V 4000000000) (v := V) hT h0 (by omega) (Or.inr ⟨rfl, rx_w.1, rx_w.2.1, rx_w.2.2⟩) ?_)
    rw [if_neg (lN_m1 (by omega))]
    refine ⟨fun z e' => ?_, fun z => ?_⟩
    · refine wq_rv d221_22 ?_
      exact (hf q35).1 z e'
    · refine wq_rv d221_22 ?_
      exact (hf q35).2 z
