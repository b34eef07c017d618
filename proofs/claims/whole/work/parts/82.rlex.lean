/-! TIMES, PLACES, SIGNS, BLANKS of the reference -/
theorem rx_wu {v u : Nat} (hu : 1 ≤ u) (h3 : u ≤ 3600000) : min v 4000000000 * u < 2 ^ 62 ∧ (2147483647 < min v 4000000000 * u ↔ 2147483647 < v * u) ∧ (v * u ≤ 2147483647 → min v 4000000000 * u = v * u) := by
  have h1 : min v 4000000000 * u ≤ 4000000000 * 3600000 := Nat.mul_le_mul (by omega) h3
  refine ⟨by omega, ?_⟩
  by_cases h : v ≤ 4000000000
  · rw [show min v 4000000000 = v by omega]
    exact ⟨Iff.rfl, fun _ => rfl⟩
  · rw [show min v 4000000000 = 4000000000 by omega]
    have a1 : 4000000000 ≤ 4000000000 * u := Nat.le_mul_of_pos_right _ hu
    have a2 : v ≤ v * u := Nat.le_mul_of_pos_right _ hu
    omega
theorem rx_t100 {d : Nat} {σ : pm_S} {Q : Option Value → pm_S → Prop} {t : Nat → Nat} {M : Nat} {p e : Nat} {mi : Int32} {x : Value} (hT : rx_T σ t M) (h0 : rx_0 σ p) (hp : p + 1 < M) (hE : lx_de t M 10 (p + 2) = e) (hU : (mi = 1 ∧ lx_unit t M e = (1, 2)) ∨ (mi = 0 ∧ (lx_unit t M e).2 = 1)) (hQ : rx_Q Q σ p (lx_tim t M p)) : pm_WP pm_Y0 (pm_call pm_Y0 (d + 4)) 10 prog_14_method_20_code none Q 100 [.ref 10, .long (rx_v t M 10 (p + 2)), pm_jk, x, .int mi, .long (lN (lx_unit t M e).1), pm_jk] [] (rs σ e) := by
  have hM := hT.2.1
  have b1 := lx_deB (t := t) (M := M) (b := 10) (p := p + 2)
  have hde : e ≤ M := by rw [← hE]; exact b1.2 (by omega)
  have ub := lx_unit_b t M e
  generalize hUU : lx_unit t M e = U at *
  have eU := lN_t (n := U.1) (by omega)
  have el9 : (Int64.ofNat ((0 : Fin 2) : Nat)).toInt = 0 := rfl
  have hbad : (e = p + 2 ∨ U.1 = 0) → ∀ e', Q none (pm_pi (pm_pi (rs σ e') 10 6 4) 10 7 (nI p)) := fun h e' => by
    rw [show lx_tim t M p = (45, 4, p) from by unfold lx_tim; rw [hE, hUU]; exact if_pos h] at hQ
    exact hQ.1 rfl e'
  have hgd : ¬ (e = p + 2 ∨ U.1 = 0) → rx_Q Q σ p (lx_fin t M (e + U.2) (lx_dv t M 10 (p + 2) 0 * U.1)) := fun h => by
    rw [show lx_tim t M p = lx_fin t M (e + U.2) (lx_dv t M 10 (p + 2) 0 * U.1) from by unfold lx_tim; rw [hE, hUU]; exact if_neg h] at hQ
    exact hQ
  have hvm : e = p + 2 → rx_v t M 10 (p + 2) = -1 := fun h => rx_vm (by omega)
  have hvn : ¬ e = p + 2 → rx_v t M 10 (p + 2) = lN (min (lx_dv t M 10 (p + 2) 0) 4000000000) := fun h => rx_vn (by omega)
  have e1 : (-1 : Int64).toInt = -1 := rfl
  have hvi : (rx_v t M 10 (p + 2)).toInt < 0 ↔ e = p + 2 := by
    by_cases q : e = p + 2
    · rw [hvm q, e1]; omega
    · rw [hvn q, lN_t (by omega)]; omega
  clear hQ
  have K : ∀ s2 : Nat, s2 ≤ 2 → (U.1 ≠ 0 → s2 = U.2) → pm_WP pm_Y0 (pm_call pm_Y0 (d + 4)) 10 prog_14_method_20_code none Q 130 [.ref 10, .long (rx_v t M 10 (p + 2)), pm_jk, x, .int mi, .long (lN U.1), pm_jk] [] (rs σ (e + s2)) := by
    intro s2 hs2 hs
    refine wq_l 131 d207_130 rfl rfl rfl rfl ?_
    refine wq_l 132 d207_131 rfl rfl rfl rfl ?_
    refine wq_a 133 d207_132 rfl rfl ?_
    refine wq_a 134 d207_133 rfl rfl ?_
    refine wq_b 144 137 d207_134 rfl (by decide) rfl (fun c134 => ?_) (fun c134 => ?_)
    · -- pc 144
      have hb : e = p + 2 ∨ U.1 = 0 := by
        first
          | (left; have z := c134; simp only [lc_lt, el9] at z; exact hvi.mp z)
          | (right; have z := c141; simp only [lc_eq, el9, eU, ne_eq, Classical.not_not] at z; omega)
      refine wq_cl 147 d207_144 rfl rfl ?_
      refine wq_g 154 d207_147 (by decide) ?_
      refine wq_v 157 [_] d207_154 rfl rfl m212 rfl rfl (Nat.le_of_ble_eq_true rfl) rfl (sp212 (x := 0) (v := 0) hT h0 (by omega) (Or.inl rfl) ?_)
      rw [if_pos rfl]
      exact ⟨fun _ e' => wq_rv d207_157 (hbad hb e'), fun z => absurd rfl z⟩
    · -- pc 137
      refine wq_l 139 d207_137 rfl rfl rfl rfl ?_
      refine wq_a 140 d207_139 rfl rfl ?_
      refine wq_a 141 d207_140 rfl rfl ?_
      refine wq_b 150 144 d207_141 rfl (by decide) rfl (fun c141 => ?_) (fun c141 => ?_)
      · -- pc 150
        have z1 := c134
        have z2 := c141
        simp only [lc_lt, lc_eq, el9, eU, ne_eq, Classical.not_not] at z1 z2
        have q1 : ¬ e = p + 2 := fun z => z1 (hvi.mpr z)
        have wu := rx_wu (v := lx_dv t M 10 (p + 2) 0) (u := U.1) (by omega) (by omega)
        rw [hvn q1]
        refine wq_l 151 d207_150 rfl rfl rfl rfl ?_
        refine wq_l 153 d207_151 rfl rfl rfl rfl ?_
        refine wq_a 154 d207_153 rfl rfl ?_
        rw [lN_mul]
        refine wq_v 157 [_] d207_154 rfl rfl m212 rfl rfl (Nat.le_of_ble_eq_true rfl) rfl (sp212 (x := min (lx_dv t M 10 (p + 2) 0) 4000000000 * U.1) (v := lx_dv t M 10 (p + 2) 0 * U.1) hT h0 (by omega) (Or.inr ⟨rfl, wu.1, wu.2.1, wu.2.2⟩) ?_)
        rw [if_neg (lN_m1 wu.1), hs (by omega)]
        have hg := hgd (by omega)
        exact ⟨fun z e' => wq_rv d207_157 (hg.1 z e'), fun z => wq_rv d207_157 (hg.2 z)⟩
      · -- pc 144
        have hb : e = p + 2 ∨ U.1 = 0 := by
          first
            | (left; have z := c134; simp only [lc_lt, el9] at z; exact hvi.mp z)
            | (right; have z := c141; simp only [lc_eq, el9, eU, ne_eq, Classical.not_not] at z; omega)
        refine wq_cl 147 d207_144 rfl rfl ?_
        refine wq_g 154 d207_147 (by decide) ?_
        refine wq_v 157 [_] d207_154 rfl rfl m212 rfl rfl (Nat.le_of_ble_eq_true rfl) rfl (sp212 (x := 0) (v := 0) hT h0 (by omega) (Or.inl rfl) ?_)
        rw [if_pos rfl]
        exact ⟨fun _ e' => wq_rv d207_157 (hbad hb e'), fun z => absurd rfl z⟩
  refine wq_l 101 d207_100 rfl rfl rfl rfl ?_
  refine wq_a 102 d207_101 rfl rfl ?_
  refine wq_gi (ci := 10) (j := 2) 105 d207_102 rfl rfl rfl rfl ?_
  rw [rs_2]
  refine wq_l 107 d207_105 rfl rfl rfl rfl ?_
  refine wq_b 114 110 d207_107 rfl (by decide) rfl (fun c107 => ?_) (fun c107 => ?_)
  · -- pc 114
    refine wq_l 116 d207_114 rfl rfl rfl rfl ?_
    refine wq_a 117 d207_116 rfl rfl ?_
    refine wq_a 118 d207_117 rfl rfl ?_
    refine wq_b 125 121 d207_118 rfl (by decide) rfl (fun c118 => ?_) (fun c118 => ?_)
    · -- pc 125
      refine wq_k 126 0 d207_125 (by decide) rfl ?_
      refine wq_a 127 d207_126 rfl rfl ?_
      refine wq_pf (ci := 10) (j := 2) 130 d207_127 rfl rfl rfl ⟨rfl, rfl⟩ rfl ?_
      first
        | (have hm := (hU.resolve_right (fun z => c107 z.1)).2
           rw [show nI e + 2 = nI (e + 2) from nI_add e 2, rs_p]
           exact K 2 (by omega) (fun _ => by rw [hm]))
        | (have hm : U.2 = 1 := by rcases hU with z | z; (rw [z.1] at c107; exact absurd c107 (by decide)); exact z.2
           first
             | (have hz : U.1 = 0 := by have z := c118; simp only [lc_le, el9, eU] at z; omega
                rw [show nI e + 0 = nI (e + 0) from nI_add e 0, rs_p]
                exact K 0 (by omega) (fun z => absurd hz z))
             | (rw [show nI e + 1 = nI (e + 1) from (nI_succ e).symm, rs_p]
                exact K 1 (by omega) (fun _ => hm.symm)))
    · -- pc 121
      refine wq_k 122 1 d207_121 (by decide) rfl ?_
      refine wq_g 126 d207_122 (by decide) ?_
      refine wq_a 127 d207_126 rfl rfl ?_
      refine wq_pf (ci := 10) (j := 2) 130 d207_127 rfl rfl rfl ⟨rfl, rfl⟩ rfl ?_
      first
        | (have hm := (hU.resolve_right (fun z => c107 z.1)).2
           rw [show nI e + 2 = nI (e + 2) from nI_add e 2, rs_p]
           exact K 2 (by omega) (fun _ => by rw [hm]))
        | (have hm : U.2 = 1 := by rcases hU with z | z; (rw [z.1] at c107; exact absurd c107 (by decide)); exact z.2
           first
             | (have hz : U.1 = 0 := by have z := c118; simp only [lc_le, el9, eU] at z; omega
                rw [show nI e + 0 = nI (e + 0) from nI_add e 0, rs_p]
                exact K 0 (by omega) (fun z => absurd hz z))
             | (rw [show nI e + 1 = nI (e + 1) from (nI_succ e).symm, rs_p]
                exact K 1 (by omega) (fun _ => hm.symm)))
  · -- pc 110
    refine wq_k 111 2 d207_110 (by decide) rfl ?_
    refine wq_g 126 d207_111 (by decide) ?_
    refine wq_a 127 d207_126 rfl rfl ?_
    refine wq_pf (ci := 10) (j := 2) 130 d207_127 rfl rfl rfl ⟨rfl, rfl⟩ rfl ?_
    first
      | (have hm := (hU.resolve_right (fun z => c107 z.1)).2
         rw [show nI e + 2 = nI (e + 2) from nI_add e 2, rs_p]
         exact K 2 (by omega) (fun _ => by rw [hm]))
      | (have hm : U.2 = 1 := by rcases hU with z | z; (rw [z.1] at c107; exact absurd c107 (by decide)); exact z.2
         first
           | (have hz : U.1 = 0 := by have z := c118; simp only [lc_le, el9, eU] at z; omega
              rw [show nI e + 0 = nI (e + 0) from nI_add e 0, rs_p]
              exact K 0 (by omega) (fun z => absurd hz z))
           | (rw [show nI e + 1 = nI (e + 1) from (nI_succ e).symm, rs_p]
              exact K 1 (by omega) (fun _ => hm.symm)))
theorem rx_t52 {d : Nat} {σ : pm_S} {Q : Option Value → pm_S → Prop} {t : Nat → Nat} {M : Nat} {p e : Nat} {mi : Int32} {x5 x6 : Value} (hT : rx_T σ t M) (h0 : rx_0 σ p) (hp : p + 1 < M) (hE : lx_de t M 10 (p + 2) = e) (hU : (mi = 1 ∧ lx_gi t M e = 77 ∧ lx_gi t M (e + 1) = 83) ∨ (mi = 0 ∧ ¬ (lx_gi t M e = 77 ∧ lx_gi t M (e + 1) = 83))) (hQ : rx_Q Q σ p (lx_tim t M p)) : pm_WP pm_Y0 (pm_call pm_Y0 (d + 4)) 10 prog_14_method_20_code none Q 52 [.ref 10, .long (rx_v t M 10 (p + 2)), pm_jk, .int (lx_g t M e), .int mi, x5, x6] [] (rs σ e) := by
  have e0 := lx_gci (M := M) hT.2.2.2 e
  refine wq_l 54 d207_52 rfl rfl rfl rfl ?_
  refine wq_b 61 57 d207_54 rfl (by decide) rfl (fun c54 => ?_) (fun c54 => ?_)
  · -- pc 61
    refine wq_l 62 d207_61 rfl rfl rfl rfl ?_
    refine wq_k 64 83 d207_62 (by decide) rfl ?_
    refine wq_b 73 67 d207_64 rfl (by decide) rfl (fun c64 => ?_) (fun c64 => ?_)
    · -- pc 73
      refine wq_l 74 d207_73 rfl rfl rfl rfl ?_
      refine wq_k 76 77 d207_74 (by decide) rfl ?_
      refine wq_b 85 79 d207_76 rfl (by decide) rfl (fun c76 => ?_) (fun c76 => ?_)
      · -- pc 85
        refine wq_l 86 d207_85 rfl rfl rfl rfl ?_
        refine wq_k 88 72 d207_86 (by decide) rfl ?_
        refine wq_b 97 91 d207_88 rfl (by decide) rfl (fun c88 => ?_) (fun c88 => ?_)
        · -- pc 97
          refine wq_a 98 d207_97 rfl rfl ?_
          refine wq_s 100 d207_98 rfl rfl (Nat.le_of_ble_eq_true rfl) rfl rfl ?_
          first
            | (have hm := (hU.resolve_right (fun z => c54 z.1)).2
               have hu : lx_unit t M e = (1, 2) := if_pos hm
               have h1 := (hU.resolve_right (fun z => c54 z.1)).1
               have hq := rx_t100 (d := d) (x := .int (lx_g t M e)) hT h0 hp hE (Or.inl ⟨h1, hu⟩) hQ
               rw [hu] at hq
               exact hq)
            | (have hm : mi = 0 ∧ ¬ (lx_gi t M e = 77 ∧ lx_gi t M (e + 1) = 83) := by rcases hU with z | z; (rw [z.1] at c54; exact absurd c54 (by decide)); exact z
               first
                 | (have hu : lx_unit t M e = (1000, 1) := (if_neg hm.2).trans (if_pos (by have z := c64; simp only [i_lt, i_le, i_eq, ne_eq, Int32.reduceToInt, b2_0, b2_1, decide_eq_true_eq, decide_eq_false_iff_not, Bool.not_eq_true, Bool.not_eq_false, e0] at z; omega))
                    have hq := rx_t100 (d := d) (x := .int (lx_g t M e)) hT h0 hp hE (Or.inr ⟨hm.1, by rw [hu]⟩) hQ
                    rw [hu] at hq
                    exact hq)
                 | (have hu : lx_unit t M e = (60000, 1) := (if_neg hm.2).trans ((if_neg (by have z := c64; simp only [i_lt, i_le, i_eq, ne_eq, Int32.reduceToInt, b2_0, b2_1, decide_eq_true_eq, decide_eq_false_iff_not, Bool.not_eq_true, Bool.not_eq_false, e0] at z; omega)).trans (if_pos (by have z := c76; simp only [i_lt, i_le, i_eq, ne_eq, Int32.reduceToInt, b2_0, b2_1, decide_eq_true_eq, decide_eq_false_iff_not, Bool.not_eq_true, Bool.not_eq_false, e0] at z; omega)))
                    have hq := rx_t100 (d := d) (x := .int (lx_g t M e)) hT h0 hp hE (Or.inr ⟨hm.1, by rw [hu]⟩) hQ
                    rw [hu] at hq
                    exact hq)
                 | (have hu : lx_unit t M e = (3600000, 1) := (if_neg hm.2).trans ((if_neg (by have z := c64; simp only [i_lt, i_le, i_eq, ne_eq, Int32.reduceToInt, b2_0, b2_1, decide_eq_true_eq, decide_eq_false_iff_not, Bool.not_eq_true, Bool.not_eq_false, e0] at z; omega)).trans ((if_neg (by have z := c76; simp only [i_lt, i_le, i_eq, ne_eq, Int32.reduceToInt, b2_0, b2_1, decide_eq_true_eq, decide_eq_false_iff_not, Bool.not_eq_true, Bool.not_eq_false, e0] at z; omega)).trans (if_pos (by have z := c88; simp only [i_lt, i_le, i_eq, ne_eq, Int32.reduceToInt, b2_0, b2_1, decide_eq_true_eq, decide_eq_false_iff_not, Bool.not_eq_true, Bool.not_eq_false, e0] at z; omega))))
                    have hq := rx_t100 (d := d) (x := .int (lx_g t M e)) hT h0 hp hE (Or.inr ⟨hm.1, by rw [hu]⟩) hQ
                    rw [hu] at hq
                    exact hq)
                 | (have hu : lx_unit t M e = (0, 1) := (if_neg hm.2).trans ((if_neg (by have z := c64; simp only [i_lt, i_le, i_eq, ne_eq, Int32.reduceToInt, b2_0, b2_1, decide_eq_true_eq, decide_eq_false_iff_not, Bool.not_eq_true, Bool.not_eq_false, e0] at z; omega)).trans ((if_neg (by have z := c76; simp only [i_lt, i_le, i_eq, ne_eq, Int32.reduceToInt, b2_0, b2_1, decide_eq_true_eq, decide_eq_false_iff_not, Bool.not_eq_true, Bool.not_eq_false, e0] at z; omega)).trans (if_neg (by have z := c88; simp only [i_lt, i_le, i_eq, ne_eq, Int32.reduceToInt, b2_0, b2_1, decide_eq_true_eq, decide_eq_false_iff_not, Bool.not_eq_true, Bool.not_eq_false, e0] at z; omega))))
                    have hq := rx_t100 (d := d) (x := .int (lx_g t M e)) hT h0 hp hE (Or.inr ⟨hm.1, by rw [hu]⟩) hQ
                    rw [hu] at hq
                    exact hq))
        · -- pc 91
          refine wq_cl 94 d207_91 rfl rfl ?_
          refine wq_g 98 d207_94 (by decide) ?_
          refine wq_s 100 d207_98 rfl rfl (Nat.le_of_ble_eq_true rfl) rfl rfl ?_
          first
            | (have hm := (hU.resolve_right (fun z => c54 z.1)).2
               have hu : lx_unit t M e = (1, 2) := if_pos hm
               have h1 := (hU.resolve_right (fun z => c54 z.1)).1
               have hq := rx_t100 (d := d) (x := .int (lx_g t M e)) hT h0 hp hE (Or.inl ⟨h1, hu⟩) hQ
               rw [hu] at hq
               exact hq)
            | (have hm : mi = 0 ∧ ¬ (lx_gi t M e = 77 ∧ lx_gi t M (e + 1) = 83) := by rcases hU with z | z; (rw [z.1] at c54; exact absurd c54 (by decide)); exact z
               first
                 | (have hu : lx_unit t M e = (1000, 1) := (if_neg hm.2).trans (if_pos (by have z := c64; simp only [i_lt, i_le, i_eq, ne_eq, Int32.reduceToInt, b2_0, b2_1, decide_eq_true_eq, decide_eq_false_iff_not, Bool.not_eq_true, Bool.not_eq_false, e0] at z; omega))
                    have hq := rx_t100 (d := d) (x := .int (lx_g t M e)) hT h0 hp hE (Or.inr ⟨hm.1, by rw [hu]⟩) hQ
                    rw [hu] at hq
                    exact hq)
                 | (have hu : lx_unit t M e = (60000, 1) := (if_neg hm.2).trans ((if_neg (by have z := c64; simp only [i_lt, i_le, i_eq, ne_eq, Int32.reduceToInt, b2_0, b2_1, decide_eq_true_eq, decide_eq_false_iff_not, Bool.not_eq_true, Bool.not_eq_false, e0] at z; omega)).trans (if_pos (by have z := c76; simp only [i_lt, i_le, i_eq, ne_eq, Int32.reduceToInt, b2_0, b2_1, decide_eq_true_eq, decide_eq_false_iff_not, Bool.not_eq_true, Bool.not_eq_false, e0] at z; omega)))
                    have hq := rx_t100 (d := d) (x := .int (lx_g t M e)) hT h0 hp hE (Or.inr ⟨hm.1, by rw [hu]⟩) hQ
                    rw [hu] at hq
                    exact hq)
                 | (have hu : lx_unit t M e = (3600000, 1) := (if_neg hm.2).trans ((if_neg (by have z := c64; simp only [i_lt, i_le, i_eq, ne_eq, Int32.reduceToInt, b2_0, b2_1, decide_eq_true_eq, decide_eq_false_iff_not, Bool.not_eq_true, Bool.not_eq_false, e0] at z; omega)).trans ((if_neg (by have z := c76; simp only [i_lt, i_le, i_eq, ne_eq, Int32.reduceToInt, b2_0, b2_1, decide_eq_true_eq, decide_eq_false_iff_not, Bool.not_eq_true, Bool.not_eq_false, e0] at z; omega)).trans (if_pos (by have z := c88; simp only [i_lt, i_le, i_eq, ne_eq, Int32.reduceToInt, b2_0, b2_1, decide_eq_true_eq, decide_eq_false_iff_not, Bool.not_eq_true, Bool.not_eq_false, e0] at z; omega))))
                    have hq := rx_t100 (d := d) (x := .int (lx_g t M e)) hT h0 hp hE (Or.inr ⟨hm.1, by rw [hu]⟩) hQ
                    rw [hu] at hq
                    exact hq)
                 | (have hu : lx_unit t M e = (0, 1) := (if_neg hm.2).trans ((if_neg (by have z := c64; simp only [i_lt, i_le, i_eq, ne_eq, Int32.reduceToInt, b2_0, b2_1, decide_eq_true_eq, decide_eq_false_iff_not, Bool.not_eq_true, Bool.not_eq_false, e0] at z; omega)).trans ((if_neg (by have z := c76; simp only [i_lt, i_le, i_eq, ne_eq, Int32.reduceToInt, b2_0, b2_1, decide_eq_true_eq, decide_eq_false_iff_not, Bool.not_eq_true, Bool.not_eq_false, e0] at z; omega)).trans (if_neg (by have z := c88; simp only [i_lt, i_le, i_eq, ne_eq, Int32.reduceToInt, b2_0, b2_1, decide_eq_true_eq, decide_eq_false_iff_not, Bool.not_eq_true, Bool.not_eq_false, e0] at z; omega))))
                    have hq := rx_t100 (d := d) (x := .int (lx_g t M e)) hT h0 hp hE (Or.inr ⟨hm.1, by rw [hu]⟩) hQ
                    rw [hu] at hq
                    exact hq))
      · -- pc 79
        refine wq_cl 82 d207_79 rfl rfl ?_
        refine wq_g 98 d207_82 (by decide) ?_
        refine wq_s 100 d207_98 rfl rfl (Nat.le_of_ble_eq_true rfl) rfl rfl ?_
        first
          | (have hm := (hU.resolve_right (fun z => c54 z.1)).2
             have hu : lx_unit t M e = (1, 2) := if_pos hm
             have h1 := (hU.resolve_right (fun z => c54 z.1)).1
             have hq := rx_t100 (d := d) (x := .int (lx_g t M e)) hT h0 hp hE (Or.inl ⟨h1, hu⟩) hQ
             rw [hu] at hq
             exact hq)
          | (have hm : mi = 0 ∧ ¬ (lx_gi t M e = 77 ∧ lx_gi t M (e + 1) = 83) := by rcases hU with z | z; (rw [z.1] at c54; exact absurd c54 (by decide)); exact z
             first
               | (have hu : lx_unit t M e = (1000, 1) := (if_neg hm.2).trans (if_pos (by have z := c64; simp only [i_lt, i_le, i_eq, ne_eq, Int32.reduceToInt, b2_0, b2_1, decide_eq_true_eq, decide_eq_false_iff_not, Bool.not_eq_true, Bool.not_eq_false, e0] at z; omega))
                  have hq := rx_t100 (d := d) (x := .int (lx_g t M e)) hT h0 hp hE (Or.inr ⟨hm.1, by rw [hu]⟩) hQ
                  rw [hu] at hq
                  exact hq)
               | (have hu : lx_unit t M e = (60000, 1) := (if_neg hm.2).trans ((if_neg (by have z := c64; simp only [i_lt, i_le, i_eq, ne_eq, Int32.reduceToInt, b2_0, b2_1, decide_eq_true_eq, decide_eq_false_iff_not, Bool.not_eq_true, Bool.not_eq_false, e0] at z; omega)).trans (if_pos (by have z := c76; simp only [i_lt, i_le, i_eq, ne_eq, Int32.reduceToInt, b2_0, b2_1, decide_eq_true_eq, decide_eq_false_iff_not, Bool.not_eq_true, Bool.not_eq_false, e0] at z; omega)))
                  have hq := rx_t100 (d := d) (x := .int (lx_g t M e)) hT h0 hp hE (Or.inr ⟨hm.1, by rw [hu]⟩) hQ
                  rw [hu] at hq
                  exact hq)
               | (have hu : lx_unit t M e = (3600000, 1) := (if_neg hm.2).trans ((if_neg (by have z := c64; simp only [i_lt, i_le, i_eq, ne_eq, Int32.reduceToInt, b2_0, b2_1, decide_eq_true_eq, decide_eq_false_iff_not, Bool.not_eq_true, Bool.not_eq_false, e0] at z; omega)).trans ((if_neg (by have z := c76; simp only [i_lt, i_le, i_eq, ne_eq, Int32.reduceToInt, b2_0, b2_1, decide_eq_true_eq, decide_eq_false_iff_not, Bool.not_eq_true, Bool.not_eq_false, e0] at z; omega)).trans (if_pos (by have z := c88; simp only [i_lt, i_le, i_eq, ne_eq, Int32.reduceToInt, b2_0, b2_1, decide_eq_true_eq, decide_eq_false_iff_not, Bool.not_eq_true, Bool.not_eq_false, e0] at z; omega))))
                  have hq := rx_t100 (d := d) (x := .int (lx_g t M e)) hT h0 hp hE (Or.inr ⟨hm.1, by rw [hu]⟩) hQ
                  rw [hu] at hq
                  exact hq)
               | (have hu : lx_unit t M e = (0, 1) := (if_neg hm.2).trans ((if_neg (by have z := c64; simp only [i_lt, i_le, i_eq, ne_eq, Int32.reduceToInt, b2_0, b2_1, decide_eq_true_eq, decide_eq_false_iff_not, Bool.not_eq_true, Bool.not_eq_false, e0] at z; omega)).trans ((if_neg (by have z := c76; simp only [i_lt, i_le, i_eq, ne_eq, Int32.reduceToInt, b2_0, b2_1, decide_eq_true_eq, decide_eq_false_iff_not, Bool.not_eq_true, Bool.not_eq_false, e0] at z; omega)).trans (if_neg (by have z := c88; simp only [i_lt, i_le, i_eq, ne_eq, Int32.reduceToInt, b2_0, b2_1, decide_eq_true_eq, decide_eq_false_iff_not, Bool.not_eq_true, Bool.not_eq_false, e0] at z; omega))))
                  have hq := rx_t100 (d := d) (x := .int (lx_g t M e)) hT h0 hp hE (Or.inr ⟨hm.1, by rw [hu]⟩) hQ
                  rw [hu] at hq
                  exact hq))
    · -- pc 67
      refine wq_cl 70 d207_67 rfl rfl ?_
      refine wq_g 98 d207_70 (by decide) ?_
      refine wq_s 100 d207_98 rfl rfl (Nat.le_of_ble_eq_true rfl) rfl rfl ?_
      first
        | (have hm := (hU.resolve_right (fun z => c54 z.1)).2
           have hu : lx_unit t M e = (1, 2) := if_pos hm
           have h1 := (hU.resolve_right (fun z => c54 z.1)).1
           have hq := rx_t100 (d := d) (x := .int (lx_g t M e)) hT h0 hp hE (Or.inl ⟨h1, hu⟩) hQ
           rw [hu] at hq
           exact hq)
        | (have hm : mi = 0 ∧ ¬ (lx_gi t M e = 77 ∧ lx_gi t M (e + 1) = 83) := by rcases hU with z | z; (rw [z.1] at c54; exact absurd c54 (by decide)); exact z
           first
             | (have hu : lx_unit t M e = (1000, 1) := (if_neg hm.2).trans (if_pos (by have z := c64; simp only [i_lt, i_le, i_eq, ne_eq, Int32.reduceToInt, b2_0, b2_1, decide_eq_true_eq, decide_eq_false_iff_not, Bool.not_eq_true, Bool.not_eq_false, e0] at z; omega))
                have hq := rx_t100 (d := d) (x := .int (lx_g t M e)) hT h0 hp hE (Or.inr ⟨hm.1, by rw [hu]⟩) hQ
                rw [hu] at hq
                exact hq)
             | (have hu : lx_unit t M e = (60000, 1) := (if_neg hm.2).trans ((if_neg (by have z := c64; simp only [i_lt, i_le, i_eq, ne_eq, Int32.reduceToInt, b2_0, b2_1, decide_eq_true_eq, decide_eq_false_iff_not, Bool.not_eq_true, Bool.not_eq_false, e0] at z; omega)).trans (if_pos (by have z := c76; simp only [i_lt, i_le, i_eq, ne_eq, Int32.reduceToInt, b2_0, b2_1, decide_eq_true_eq, decide_eq_false_iff_not, Bool.not_eq_true, Bool.not_eq_false, e0] at z; omega)))
                have hq := rx_t100 (d := d) (x := .int (lx_g t M e)) hT h0 hp hE (Or.inr ⟨hm.1, by rw [hu]⟩) hQ
                rw [hu] at hq
                exact hq)
             | (have hu : lx_unit t M e = (3600000, 1) := (if_neg hm.2).trans ((if_neg (by have z := c64; simp only [i_lt, i_le, i_eq, ne_eq, Int32.reduceToInt, b2_0, b2_1, decide_eq_true_eq, decide_eq_false_iff_not, Bool.not_eq_true, Bool.not_eq_false, e0] at z; omega)).trans ((if_neg (by have z := c76; simp only [i_lt, i_le, i_eq, ne_eq, Int32.reduceToInt, b2_0, b2_1, decide_eq_true_eq, decide_eq_false_iff_not, Bool.not_eq_true, Bool.not_eq_false, e0] at z; omega)).trans (if_pos (by have z := c88; simp only [i_lt, i_le, i_eq, ne_eq, Int32.reduceToInt, b2_0, b2_1, decide_eq_true_eq, decide_eq_false_iff_not, Bool.not_eq_true, Bool.not_eq_false, e0] at z; omega))))
                have hq := rx_t100 (d := d) (x := .int (lx_g t M e)) hT h0 hp hE (Or.inr ⟨hm.1, by rw [hu]⟩) hQ
                rw [hu] at hq
                exact hq)
             | (have hu : lx_unit t M e = (0, 1) := (if_neg hm.2).trans ((if_neg (by have z := c64; simp only [i_lt, i_le, i_eq, ne_eq, Int32.reduceToInt, b2_0, b2_1, decide_eq_true_eq, decide_eq_false_iff_not, Bool.not_eq_true, Bool.not_eq_false, e0] at z; omega)).trans ((if_neg (by have z := c76; simp only [i_lt, i_le, i_eq, ne_eq, Int32.reduceToInt, b2_0, b2_1, decide_eq_true_eq, decide_eq_false_iff_not, Bool.not_eq_true, Bool.not_eq_false, e0] at z; omega)).trans (if_neg (by have z := c88; simp only [i_lt, i_le, i_eq, ne_eq, Int32.reduceToInt, b2_0, b2_1, decide_eq_true_eq, decide_eq_false_iff_not, Bool.not_eq_true, Bool.not_eq_false, e0] at z; omega))))
                have hq := rx_t100 (d := d) (x := .int (lx_g t M e)) hT h0 hp hE (Or.inr ⟨hm.1, by rw [hu]⟩) hQ
                rw [hu] at hq
                exact hq))
  · -- pc 57
    refine wq_a 58 d207_57 rfl rfl ?_
    refine wq_g 98 d207_58 (by decide) ?_
    refine wq_s 100 d207_98 rfl rfl (Nat.le_of_ble_eq_true rfl) rfl rfl ?_
    first
      | (have hm := (hU.resolve_right (fun z => c54 z.1)).2
         have hu : lx_unit t M e = (1, 2) := if_pos hm
         have h1 := (hU.resolve_right (fun z => c54 z.1)).1
         have hq := rx_t100 (d := d) (x := .int (lx_g t M e)) hT h0 hp hE (Or.inl ⟨h1, hu⟩) hQ
         rw [hu] at hq
         exact hq)
      | (have hm : mi = 0 ∧ ¬ (lx_gi t M e = 77 ∧ lx_gi t M (e + 1) = 83) := by rcases hU with z | z; (rw [z.1] at c54; exact absurd c54 (by decide)); exact z
         first
           | (have hu : lx_unit t M e = (1000, 1) := (if_neg hm.2).trans (if_pos (by have z := c64; simp only [i_lt, i_le, i_eq, ne_eq, Int32.reduceToInt, b2_0, b2_1, decide_eq_true_eq, decide_eq_false_iff_not, Bool.not_eq_true, Bool.not_eq_false, e0] at z; omega))
              have hq := rx_t100 (d := d) (x := .int (lx_g t M e)) hT h0 hp hE (Or.inr ⟨hm.1, by rw [hu]⟩) hQ
              rw [hu] at hq
              exact hq)
           | (have hu : lx_unit t M e = (60000, 1) := (if_neg hm.2).trans ((if_neg (by have z := c64; simp only [i_lt, i_le, i_eq, ne_eq, Int32.reduceToInt, b2_0, b2_1, decide_eq_true_eq, decide_eq_false_iff_not, Bool.not_eq_true, Bool.not_eq_false, e0] at z; omega)).trans (if_pos (by have z := c76; simp only [i_lt, i_le, i_eq, ne_eq, Int32.reduceToInt, b2_0, b2_1, decide_eq_true_eq, decide_eq_false_iff_not, Bool.not_eq_true, Bool.not_eq_false, e0] at z; omega)))
              have hq := rx_t100 (d := d) (x := .int (lx_g t M e)) hT h0 hp hE (Or.inr ⟨hm.1, by rw [hu]⟩) hQ
              rw [hu] at hq
              exact hq)
           | (have hu : lx_unit t M e = (3600000, 1) := (if_neg hm.2).trans ((if_neg (by have z := c64; simp only [i_lt, i_le, i_eq, ne_eq, Int32.reduceToInt, b2_0, b2_1, decide_eq_true_eq, decide_eq_false_iff_not, Bool.not_eq_true, Bool.not_eq_false, e0] at z; omega)).trans ((if_neg (by have z := c76; simp only [i_lt, i_le, i_eq, ne_eq, Int32.reduceToInt, b2_0, b2_1, decide_eq_true_eq, decide_eq_false_iff_not, Bool.not_eq_true, Bool.not_eq_false, e0] at z; omega)).trans (if_pos (by have z := c88; simp only [i_lt, i_le, i_eq, ne_eq, Int32.reduceToInt, b2_0, b2_1, decide_eq_true_eq, decide_eq_false_iff_not, Bool.not_eq_true, Bool.not_eq_false, e0] at z; omega))))
              have hq := rx_t100 (d := d) (x := .int (lx_g t M e)) hT h0 hp hE (Or.inr ⟨hm.1, by rw [hu]⟩) hQ
              rw [hu] at hq
              exact hq)
           | (have hu : lx_unit t M e = (0, 1) := (if_neg hm.2).trans ((if_neg (by have z := c64; simp only [i_lt, i_le, i_eq, ne_eq, Int32.reduceToInt, b2_0, b2_1, decide_eq_true_eq, decide_eq_false_iff_not, Bool.not_eq_true, Bool.not_eq_false, e0] at z; omega)).trans ((if_neg (by have z := c76; simp only [i_lt, i_le, i_eq, ne_eq, Int32.reduceToInt, b2_0, b2_1, decide_eq_true_eq, decide_eq_false_iff_not, Bool.not_eq_true, Bool.not_eq_false, e0] at z; omega)).trans (if_neg (by have z := c88; simp only [i_lt, i_le, i_eq, ne_eq, Int32.reduceToInt, b2_0, b2_1, decide_eq_true_eq, decide_eq_false_iff_not, Bool.not_eq_true, Bool.not_eq_false, e0] at z; omega))))
              have hq := rx_t100 (d := d) (x := .int (lx_g t M e)) hT h0 hp hE (Or.inr ⟨hm.1, by rw [hu]⟩) hQ
              rw [hu] at hq
              exact hq))
theorem sp207 {d : Nat} {σ : pm_S} {Q : Option Value → pm_S → Prop} {t : Nat → Nat} {M : Nat} {p : Nat} (hT : rx_T σ t M) (h0 : rx_0 σ p) (hp : p + 1 < M) (hQ : rx_Q Q σ p (lx_tim t M p)) : pm_call pm_Y0 (d + 5) 207 [.ref 10] (rs σ p) Q := by
  have hM := hT.2.1
  have ht := hT.2.2.2
  have b1 := lx_deB (t := t) (M := M) (b := 10) (p := p + 2)
  have hde := b1.2 (by omega)
  generalize hE : lx_de t M 10 (p + 2) = e at *
  have e0 := lx_gci (M := M) ht e
  have e1 := lx_gci (M := M) ht (e + 1)
  refine wq_m m207 (Nat.le_of_ble_eq_true rfl) (by decide) rfl ?_
  refine wq_l 1 d207_0 rfl rfl rfl rfl ?_
  refine wq_a 2 d207_1 rfl rfl ?_
  refine wq_gi (ci := 10) (j := 2) 5 d207_2 rfl rfl rfl rfl ?_
  rw [rs_2]
  refine wq_k 6 2 d207_5 (by decide) rfl ?_
  refine wq_a 7 d207_6 rfl rfl ?_
  refine wq_pf (ci := 10) (j := 2) 10 d207_7 rfl rfl rfl ⟨rfl, rfl⟩ rfl ?_
  rw [show nI p + 2 = nI (p + 2) from nI_add p 2, rs_p]
  refine wq_l 11 d207_10 rfl rfl rfl rfl ?_
  refine wq_k 13 10 d207_11 (by decide) rfl ?_
  refine wq_v 16 [_] d207_13 rfl rfl m208 rfl rfl (Nat.le_of_ble_eq_true rfl) rfl (sp208 (b := 10) hT (by decide) (by omega) ?_)
  rw [hE]
  refine wq_s 17 d207_16 rfl rfl (Nat.le_of_ble_eq_true rfl) rfl rfl ?_
  refine wq_l 18 d207_17 rfl rfl rfl rfl ?_
  refine wq_k 19 0 d207_18 (by decide) rfl ?_
  refine wq_v 22 [_] d207_19 rfl rfl m205 rfl rfl (Nat.le_of_ble_eq_true rfl) rfl (sp205z hT (by omega) ?_)
  refine wq_vs 25 [_] d207_22 rfl rfl m211 rfl (Nat.le_of_ble_eq_true rfl) rfl (sp211 ?_)
  rw [rx_gc ht]
  refine wq_s 26 d207_25 rfl rfl (Nat.le_of_ble_eq_true rfl) rfl rfl ?_
  refine wq_l 27 d207_26 rfl rfl rfl rfl ?_
  refine wq_k 29 77 d207_27 (by decide) rfl ?_
  refine wq_b 49 32 d207_29 rfl (by decide) rfl (fun c29 => ?_) (fun c29 => ?_)
  · -- pc 49
    refine wq_k 50 0 d207_49 (by decide) rfl ?_
    refine wq_s 52 d207_50 rfl rfl (Nat.le_of_ble_eq_true rfl) rfl rfl ?_
    first
      | exact rx_t52 hT h0 hp hE (Or.inl ⟨rfl, by have z := c29; simp only [i_lt, i_le, i_eq, ne_eq, Int32.reduceToInt, b2_0, b2_1, decide_eq_true_eq, decide_eq_false_iff_not, Bool.not_eq_true, Bool.not_eq_false, e0] at z; omega, by have z := c42; simp only [i_lt, i_le, i_eq, ne_eq, Int32.reduceToInt, b2_0, b2_1, decide_eq_true_eq, decide_eq_false_iff_not, Bool.not_eq_true, Bool.not_eq_false, e1] at z; omega⟩) hQ
      | exact rx_t52 hT h0 hp hE (Or.inr ⟨rfl, fun w => by have z := c42; simp only [i_lt, i_le, i_eq, ne_eq, Int32.reduceToInt, b2_0, b2_1, decide_eq_true_eq, decide_eq_false_iff_not, Bool.not_eq_true, Bool.not_eq_false, e1] at z; omega⟩) hQ
      | exact rx_t52 hT h0 hp hE (Or.inr ⟨rfl, fun w => by have z := c29; simp only [i_lt, i_le, i_eq, ne_eq, Int32.reduceToInt, b2_0, b2_1, decide_eq_true_eq, decide_eq_false_iff_not, Bool.not_eq_true, Bool.not_eq_false, e0] at z; omega⟩) hQ
  · -- pc 32
    refine wq_l 33 d207_32 rfl rfl rfl rfl ?_
    refine wq_k 34 1 d207_33 (by decide) rfl ?_
    refine wq_v 37 [_] d207_34 rfl rfl m205 rfl rfl (Nat.le_of_ble_eq_true rfl) rfl (sp205 (k := 1) hT (by omega) ?_)
    refine wq_vs 40 [_] d207_37 rfl rfl m211 rfl (Nat.le_of_ble_eq_true rfl) rfl (sp211 ?_)
    rw [rx_gc ht]
    refine wq_k 42 83 d207_40 (by decide) rfl ?_
    refine wq_b 49 45 d207_42 rfl (by decide) rfl (fun c42 => ?_) (fun c42 => ?_)
    · -- pc 49
      refine wq_k 50 0 d207_49 (by decide) rfl ?_
      refine wq_s 52 d207_50 rfl rfl (Nat.le_of_ble_eq_true rfl) rfl rfl ?_
      first
        | exact rx_t52 hT h0 hp hE (Or.inl ⟨rfl, by have z := c29; simp only [i_lt, i_le, i_eq, ne_eq, Int32.reduceToInt, b2_0, b2_1, decide_eq_true_eq, decide_eq_false_iff_not, Bool.not_eq_true, Bool.not_eq_false, e0] at z; omega, by have z := c42; simp only [i_lt, i_le, i_eq, ne_eq, Int32.reduceToInt, b2_0, b2_1, decide_eq_true_eq, decide_eq_false_iff_not, Bool.not_eq_true, Bool.not_eq_false, e1] at z; omega⟩) hQ
        | exact rx_t52 hT h0 hp hE (Or.inr ⟨rfl, fun w => by have z := c42; simp only [i_lt, i_le, i_eq, ne_eq, Int32.reduceToInt, b2_0, b2_1, decide_eq_true_eq, decide_eq_false_iff_not, Bool.not_eq_true, Bool.not_eq_false, e1] at z; omega⟩) hQ
        | exact rx_t52 hT h0 hp hE (Or.inr ⟨rfl, fun w => by have z := c29; simp only [i_lt, i_le, i_eq, ne_eq, Int32.reduceToInt, b2_0, b2_1, decide_eq_true_eq, decide_eq_false_iff_not, Bool.not_eq_true, Bool.not_eq_false, e0] at z; omega⟩) hQ
    · -- pc 45
      refine wq_k 46 1 d207_45 (by decide) rfl ?_
      refine wq_g 50 d207_46 (by decide) ?_
      refine wq_s 52 d207_50 rfl rfl (Nat.le_of_ble_eq_true rfl) rfl rfl ?_
      first
        | exact rx_t52 hT h0 hp hE (Or.inl ⟨rfl, by have z := c29; simp only [i_lt, i_le, i_eq, ne_eq, Int32.reduceToInt, b2_0, b2_1, decide_eq_true_eq, decide_eq_false_iff_not, Bool.not_eq_true, Bool.not_eq_false, e0] at z; omega, by have z := c42; simp only [i_lt, i_le, i_eq, ne_eq, Int32.reduceToInt, b2_0, b2_1, decide_eq_true_eq, decide_eq_false_iff_not, Bool.not_eq_true, Bool.not_eq_false, e1] at z; omega⟩) hQ
        | exact rx_t52 hT h0 hp hE (Or.inr ⟨rfl, fun w => by have z := c42; simp only [i_lt, i_le, i_eq, ne_eq, Int32.reduceToInt, b2_0, b2_1, decide_eq_true_eq, decide_eq_false_iff_not, Bool.not_eq_true, Bool.not_eq_false, e1] at z; omega⟩) hQ
        | exact rx_t52 hT h0 hp hE (Or.inr ⟨rfl, fun w => by have z := c29; simp only [i_lt, i_le, i_eq, ne_eq, Int32.reduceToInt, b2_0, b2_1, decide_eq_true_eq, decide_eq_false_iff_not, Bool.not_eq_true, Bool.not_eq_false, e0] at z; omega⟩) hQ
