/-! PLACES -/
def rx_sz (c : Int) : Nat := if c = 88 then 0 else if c = 87 then 3 else 9
theorem rx_szc (c : Int) : (c = 88 ∧ rx_sz c = 0) ∨ (c = 87 ∧ rx_sz c = 3) ∨ (c ≠ 88 ∧ c ≠ 87 ∧ rx_sz c = 9) := by
  unfold rx_sz
  by_cases h : c = 88
  · rw [if_pos h]; exact Or.inl ⟨h, rfl⟩
  · rw [if_neg h]
    by_cases h2 : c = 87
    · rw [if_pos h2]; exact Or.inr (Or.inl ⟨h2, rfl⟩)
    · rw [if_neg h2]; exact Or.inr (Or.inr ⟨h, h2, rfl⟩)
theorem rx_arc (c : Int) : (c = 73 ∧ lx_area c = 0) ∨ (c = 81 ∧ lx_area c = 1) ∨ (c = 77 ∧ lx_area c = 2) ∨ (c ≠ 73 ∧ c ≠ 81 ∧ c ≠ 77 ∧ lx_area c = 9) := by
  unfold lx_area
  by_cases h1 : c = 73
  · rw [if_pos h1]; exact Or.inl ⟨h1, rfl⟩
  rw [if_neg h1]
  by_cases h2 : c = 81
  · rw [if_pos h2]; exact Or.inr (Or.inl ⟨h2, rfl⟩)
  rw [if_neg h2]
  by_cases h3 : c = 77
  · rw [if_pos h3]; exact Or.inr (Or.inr (Or.inl ⟨h3, rfl⟩))
  rw [if_neg h3]
  exact Or.inr (Or.inr (Or.inr ⟨h1, h2, h3, rfl⟩))
theorem rx_p74 {d : Nat} {σ : pm_S} {Q : Option Value → pm_S → Prop} {t : Nat → Nat} {M : Nat} {p K : Nat} {v1 v2 x4 x5 : Value} (hT : rx_T σ t M) (h0 : rx_0 σ p) (hp : p < M) (hK : K = lx_area (lx_gi t M (p + 1)) + rx_sz (lx_gi t M (p + 2))) (hQ : rx_Q Q σ p (lx_pla t M p)) : pm_WP pm_Y0 (pm_call pm_Y0 (d + 4)) 10 prog_14_method_21_code none Q 74 [.ref 10, v1, v2, .int (nI K), x4, x5] [] (rs σ p) := by
  have hM := hT.2.1
  have b1 := lx_deB (t := t) (M := M) (b := 10) (p := p + 3)
  have b3 : lx_de t M 10 (p + 3) ≤ M + 3 := by
    by_cases q : p + 3 ≤ M
    · have := b1.2 q
      omega
    · rw [lx_de_u, if_neg (by omega)]; omega
  have hsz := rx_szc (lx_gi t M (p + 2))
  have har := rx_arc (lx_gi t M (p + 1))
  have eK := nI_toInt (n := K) (by omega)
  have hvm := rx_vm (t := t) (M := M) (b := 10) (p := p + 3)
  have hvn := rx_vn (t := t) (M := M) (b := 10) (p := p + 3)
  have h6 : ∀ e, (rs σ e).1 10 6 = 0 := fun e => h0.1
  have h4 : ∀ e, (rs σ e).1 10 4 = nI p := fun e => h0.2.1
  have hbad : ¬ (lx_area (lx_gi t M (p + 1)) ≠ 9 ∧ (lx_gi t M (p + 2) = 88 ∨ lx_gi t M (p + 2) = 87) ∧ lx_de t M 10 (p + 3) ≠ p + 3 ∧ lx_dv t M 10 (p + 3) 0 ≤ (if lx_gi t M (p + 2) = 88 then 255 else 63) ∧ lx_np (lx_i t M (lx_de t M 10 (p + 3))) = false) → ∀ e', Q none (pm_pi (pm_pi (rs σ e') 10 6 5) 10 7 (nI p)) := fun h e' => by
    rw [show lx_pla t M p = (45, 5, p) from if_neg h] at hQ
    exact hQ.1 rfl e'
  have hgd : (lx_area (lx_gi t M (p + 1)) ≠ 9 ∧ (lx_gi t M (p + 2) = 88 ∨ lx_gi t M (p + 2) = 87) ∧ lx_de t M 10 (p + 3) ≠ p + 3 ∧ lx_dv t M 10 (p + 3) 0 ≤ (if lx_gi t M (p + 2) = 88 then 255 else 63) ∧ lx_np (lx_i t M (lx_de t M 10 (p + 3))) = false) → Q none (pm_pi (pm_pi (rs σ (lx_de t M 10 (p + 3))) 10 3 3) 10 5 (nI (256 * K + lx_dv t M 10 (p + 3) 0))) := fun h => by
    have hk2 : lx_area (lx_gi t M (p + 1)) + (if lx_gi t M (p + 2) = 88 then 0 else 3) = K := by
      rcases hsz with z | z | z
      · rw [if_pos z.1, hK, z.2]
      · rw [if_neg (by omega), hK, z.2]
      · omega
    rw [show lx_pla t M p = (43, 256 * (lx_area (lx_gi t M (p + 1)) + (if lx_gi t M (p + 2) = 88 then 0 else 3)) + lx_dv t M 10 (p + 3) 0, lx_de t M 10 (p + 3)) from if_pos h, hk2] at hQ
    exact hQ.2 (by decide : (43 : Nat) ≠ 45)
  clear hQ
  generalize hE : lx_de t M 10 (p + 3) = e at *
  generalize hV : lx_dv t M 10 (p + 3) 0 = V at *
  generalize hW : rx_v t M 10 (p + 3) = W at *
  have e0 := lx_ci (M := M) hT.2.2.2 e
  have ew := lN_t (n := min V 4000000000) (by omega)
  have el9 : (Int64.ofNat ((0 : Fin 2) : Nat)).toInt = 0 := rfl
  have em1 : (-1 : Int64).toInt = -1 := rfl
  have e255 : (255 : Int64).toInt = 255 := rfl
  have e63 : (63 : Int64).toInt = 63 := rfl
  have hWi : (e = p + 3 ∧ W.toInt = -1) ∨ (e ≠ p + 3 ∧ W = lN (min V 4000000000) ∧ W.toInt = (min V 4000000000 : Nat)) := by
    by_cases q : e = p + 3
    · exact Or.inl ⟨q, by rw [hvm q]; rfl⟩
    · exact Or.inr ⟨q, hvn q, by rw [hvn q]; exact ew⟩
  generalize hA : lx_area (lx_gi t M (p + 1)) = A at *
  generalize hS : rx_sz (lx_gi t M (p + 2)) = S at *
  generalize hc2 : lx_gi t M (p + 2) = c2 at *
  generalize hc1 : lx_gi t M (p + 1) = c1 at *
  refine wq_l 75 d222_74 rfl rfl rfl rfl ?_
  refine wq_a 76 d222_75 rfl rfl ?_
  refine wq_gi (ci := 10) (j := 2) 79 d222_76 rfl rfl rfl rfl ?_
  rw [rs_2]
  refine wq_k 80 3 d222_79 (by decide) rfl ?_
  refine wq_a 81 d222_80 rfl rfl ?_
  refine wq_pf (ci := 10) (j := 2) 84 d222_81 rfl rfl rfl ⟨rfl, rfl⟩ rfl ?_
  rw [show nI p + 3 = nI (p + 3) from nI_add p 3, rs_p]
  refine wq_l 85 d222_84 rfl rfl rfl rfl ?_
  refine wq_k 87 6 d222_85 (by decide) rfl ?_
  refine wq_b 99 90 d222_87 rfl (by decide) rfl (fun c87 => ?_) (fun c87 => ?_)
  · -- pc 99
    refine wq_cl 102 d222_99 rfl rfl ?_
    refine wq_s 104 d222_102 rfl rfl (Nat.le_of_ble_eq_true rfl) rfl rfl ?_
    refine wq_l 106 d222_104 rfl rfl rfl rfl ?_
    refine wq_a 107 d222_106 rfl rfl ?_
    refine wq_a 108 d222_107 rfl rfl ?_
    refine wq_b 142 111 d222_108 rfl (by decide) rfl (fun c108 => ?_) (fun c108 => absurd (by simp only [lc_lt, lc_gt, lc_le, lc_eq, el9, em1, e255, e63, gt_iff_lt]; decide) c108)
    have hb : ¬ (A ≠ 9 ∧ (c2 = 88 ∨ c2 = 87) ∧ e ≠ p + 3 ∧ V ≤ (if c2 = 88 then 255 else 63) ∧ lx_np (lx_i t M e) = false) := by
      rintro ⟨g1, g2, g3, g4, g5⟩
      have g4' : (c2 = 88 → V ≤ 255) ∧ (c2 ≠ 88 → V ≤ 63) := by by_cases q : c2 = 88; (rw [if_pos q] at g4; exact ⟨fun _ => g4, fun z => absurd q z⟩); (rw [if_neg q] at g4; exact ⟨fun z => absurd z q, fun _ => g4⟩)
      first
        | (have z := c87; simp only [i_lt, i_le, i_eq, ne_eq, Int32.reduceToInt, b2_0, b2_1, decide_eq_true_eq, decide_eq_false_iff_not, Bool.not_eq_true, Bool.not_eq_false, eK] at z; omega)
        | (have z := c108; simp only [lc_lt, lc_gt, lc_le, lc_eq, el9, em1, e255, e63, gt_iff_lt] at z; omega)
        | (have z := c115; have z2 := c128; simp only [i_lt, i_le, i_eq, ne_eq, Int32.reduceToInt, b2_0, b2_1, decide_eq_true_eq, decide_eq_false_iff_not, Bool.not_eq_true, Bool.not_eq_false, eK] at z; simp only [lc_lt, lc_gt, lc_le, lc_eq, el9, em1, e255, e63, gt_iff_lt] at z2; omega)
        | (have z := c139; simp only [i_lt, i_le, i_eq, ne_eq, Int32.reduceToInt, b2_0, b2_1, decide_eq_true_eq, decide_eq_false_iff_not, Bool.not_eq_true, Bool.not_eq_false, e0] at z; rw [g5] at z; first | exact absurd rfl z | cases z)
    refine wq_l 143 d222_142 rfl rfl rfl rfl ?_
    refine wq_k 144 5 d222_143 (by decide) rfl ?_
    refine wq_l 145 d222_144 rfl rfl rfl rfl ?_
    refine wq_gi (ci := 10) (j := 4) 148 d222_145 rfl rfl rfl rfl ?_
    rw [h4]
    refine wq_v 151 [_, _] d222_148 rfl rfl m206 rfl rfl (Nat.le_of_ble_eq_true rfl) rfl (sp206 (h6 _) ?_)
    exact wq_rv d222_151 (hbad hb _)
  · -- pc 90
    refine wq_l 91 d222_90 rfl rfl rfl rfl ?_
    refine wq_k 93 10 d222_91 (by decide) rfl ?_
    refine wq_v 96 [_] d222_93 rfl rfl m208 rfl rfl (Nat.le_of_ble_eq_true rfl) rfl (sp208 (b := 10) hT (by decide) (by omega) ?_)
    rw [hE, hW]
    refine wq_g 102 d222_96 (by decide) ?_
    refine wq_s 104 d222_102 rfl rfl (Nat.le_of_ble_eq_true rfl) rfl rfl ?_
    refine wq_l 106 d222_104 rfl rfl rfl rfl ?_
    refine wq_a 107 d222_106 rfl rfl ?_
    refine wq_a 108 d222_107 rfl rfl ?_
    refine wq_b 142 111 d222_108 rfl (by decide) rfl (fun c108 => ?_) (fun c108 => ?_)
    · -- pc 142
      have hb : ¬ (A ≠ 9 ∧ (c2 = 88 ∨ c2 = 87) ∧ e ≠ p + 3 ∧ V ≤ (if c2 = 88 then 255 else 63) ∧ lx_np (lx_i t M e) = false) := by
        rintro ⟨g1, g2, g3, g4, g5⟩
        have g4' : (c2 = 88 → V ≤ 255) ∧ (c2 ≠ 88 → V ≤ 63) := by by_cases q : c2 = 88; (rw [if_pos q] at g4; exact ⟨fun _ => g4, fun z => absurd q z⟩); (rw [if_neg q] at g4; exact ⟨fun z => absurd z q, fun _ => g4⟩)
        first
          | (have z := c87; simp only [i_lt, i_le, i_eq, ne_eq, Int32.reduceToInt, b2_0, b2_1, decide_eq_true_eq, decide_eq_false_iff_not, Bool.not_eq_true, Bool.not_eq_false, eK] at z; omega)
          | (have z := c108; simp only [lc_lt, lc_gt, lc_le, lc_eq, el9, em1, e255, e63, gt_iff_lt] at z; omega)
          | (have z := c115; have z2 := c128; simp only [i_lt, i_le, i_eq, ne_eq, Int32.reduceToInt, b2_0, b2_1, decide_eq_true_eq, decide_eq_false_iff_not, Bool.not_eq_true, Bool.not_eq_false, eK] at z; simp only [lc_lt, lc_gt, lc_le, lc_eq, el9, em1, e255, e63, gt_iff_lt] at z2; omega)
          | (have z := c139; simp only [i_lt, i_le, i_eq, ne_eq, Int32.reduceToInt, b2_0, b2_1, decide_eq_true_eq, decide_eq_false_iff_not, Bool.not_eq_true, Bool.not_eq_false, e0] at z; rw [g5] at z; first | exact absurd rfl z | cases z)
      refine wq_l 143 d222_142 rfl rfl rfl rfl ?_
      refine wq_k 144 5 d222_143 (by decide) rfl ?_
      refine wq_l 145 d222_144 rfl rfl rfl rfl ?_
      refine wq_gi (ci := 10) (j := 4) 148 d222_145 rfl rfl rfl rfl ?_
      rw [h4]
      refine wq_v 151 [_, _] d222_148 rfl rfl m206 rfl rfl (Nat.le_of_ble_eq_true rfl) rfl (sp206 (h6 _) ?_)
      exact wq_rv d222_151 (hbad hb _)
    · -- pc 111
      refine wq_l 113 d222_111 rfl rfl rfl rfl ?_
      refine wq_l 114 d222_113 rfl rfl rfl rfl ?_
      refine wq_k 115 3 d222_114 (by decide) rfl ?_
      refine wq_b 124 118 d222_115 rfl (by decide) rfl (fun c115 => ?_) (fun c115 => ?_)
      · -- pc 124
        refine wq_cl 127 d222_124 rfl rfl ?_
        refine wq_a 128 d222_127 rfl rfl ?_
        refine wq_b 142 131 d222_128 rfl (by decide) rfl (fun c128 => ?_) (fun c128 => ?_)
        · -- pc 142
          have hb : ¬ (A ≠ 9 ∧ (c2 = 88 ∨ c2 = 87) ∧ e ≠ p + 3 ∧ V ≤ (if c2 = 88 then 255 else 63) ∧ lx_np (lx_i t M e) = false) := by
            rintro ⟨g1, g2, g3, g4, g5⟩
            have g4' : (c2 = 88 → V ≤ 255) ∧ (c2 ≠ 88 → V ≤ 63) := by by_cases q : c2 = 88; (rw [if_pos q] at g4; exact ⟨fun _ => g4, fun z => absurd q z⟩); (rw [if_neg q] at g4; exact ⟨fun z => absurd z q, fun _ => g4⟩)
            first
              | (have z := c87; simp only [i_lt, i_le, i_eq, ne_eq, Int32.reduceToInt, b2_0, b2_1, decide_eq_true_eq, decide_eq_false_iff_not, Bool.not_eq_true, Bool.not_eq_false, eK] at z; omega)
              | (have z := c108; simp only [lc_lt, lc_gt, lc_le, lc_eq, el9, em1, e255, e63, gt_iff_lt] at z; omega)
              | (have z := c115; have z2 := c128; simp only [i_lt, i_le, i_eq, ne_eq, Int32.reduceToInt, b2_0, b2_1, decide_eq_true_eq, decide_eq_false_iff_not, Bool.not_eq_true, Bool.not_eq_false, eK] at z; simp only [lc_lt, lc_gt, lc_le, lc_eq, el9, em1, e255, e63, gt_iff_lt] at z2; omega)
              | (have z := c139; simp only [i_lt, i_le, i_eq, ne_eq, Int32.reduceToInt, b2_0, b2_1, decide_eq_true_eq, decide_eq_false_iff_not, Bool.not_eq_true, Bool.not_eq_false, e0] at z; rw [g5] at z; first | exact absurd rfl z | cases z)
          refine wq_l 143 d222_142 rfl rfl rfl rfl ?_
          refine wq_k 144 5 d222_143 (by decide) rfl ?_
          refine wq_l 145 d222_144 rfl rfl rfl rfl ?_
          refine wq_gi (ci := 10) (j := 4) 148 d222_145 rfl rfl rfl rfl ?_
          rw [h4]
          refine wq_v 151 [_, _] d222_148 rfl rfl m206 rfl rfl (Nat.le_of_ble_eq_true rfl) rfl (sp206 (h6 _) ?_)
          exact wq_rv d222_151 (hbad hb _)
        · -- pc 131
          refine wq_l 132 d222_131 rfl rfl rfl rfl ?_
          refine wq_k 133 0 d222_132 (by decide) rfl ?_
          refine wq_v 136 [_] d222_133 rfl rfl m205 rfl rfl (Nat.le_of_ble_eq_true rfl) rfl (sp205z hT (by omega) ?_)
          refine wq_vs 139 [_] d222_136 rfl rfl m213 rfl (Nat.le_of_ble_eq_true rfl) rfl (sp213 ?_)
          refine wq_b 152 142 d222_139 rfl (by decide) rfl (fun c139 => ?_) (fun c139 => ?_)
          · -- pc 152
            have hgg : (A ≠ 9 ∧ (c2 = 88 ∨ c2 = 87) ∧ e ≠ p + 3 ∧ V ≤ (if c2 = 88 then 255 else 63) ∧ lx_np (lx_i t M e) = false) ∧ W = lN V := by
              first
                | (exfalso; have z0 := c87; have z := c108; simp only [i_lt, i_le, i_eq, ne_eq, Int32.reduceToInt, b2_0, b2_1, decide_eq_true_eq, decide_eq_false_iff_not, Bool.not_eq_true, Bool.not_eq_false, eK] at z0; simp only [lc_lt, lc_gt, lc_le, lc_eq, el9, em1, e255, e63, gt_iff_lt] at z; omega)
                | (have z0 := c87; have z := c108; have z1 := c115; have z2 := c128; have z3 := c139
                   simp only [i_lt, i_le, i_eq, ne_eq, Int32.reduceToInt, b2_0, b2_1, decide_eq_true_eq, decide_eq_false_iff_not, Bool.not_eq_true, Bool.not_eq_false, eK] at z0 z1
                   simp only [lc_lt, lc_gt, lc_le, lc_eq, el9, em1, e255, e63, gt_iff_lt] at z z2
                   simp only [i_lt, i_le, i_eq, ne_eq, Int32.reduceToInt, b2_0, b2_1, decide_eq_true_eq, decide_eq_false_iff_not, Bool.not_eq_true, Bool.not_eq_false, e0] at z3
                   have h9 : e ≠ p + 3 := by omega
                   obtain ⟨_, w1, w2⟩ := hWi.resolve_left (fun q => h9 q.1)
                   have h88 : V ≤ (if c2 = 88 then 255 else 63) ∧ V ≤ 255 := by
                     by_cases q : c2 = 88
                     · rw [if_pos q]; omega
                     · rw [if_neg q]; omega
                   exact ⟨⟨by omega, by omega, h9, h88.1, z3⟩, by rw [w1, show min V 4000000000 = V by omega]⟩)
            have hg := hgd hgg.1
            rw [hgg.2]
            refine wq_l 153 d222_152 rfl rfl rfl rfl ?_
            refine wq_k 154 3 d222_153 (by decide) rfl ?_
            refine wq_pf (ci := 10) (j := 3) 157 d222_154 rfl rfl rfl ⟨rfl, rfl⟩ rfl ?_
            refine wq_l 158 d222_157 rfl rfl rfl rfl ?_
            refine wq_k 161 256 d222_158 (by decide) rfl ?_
            refine wq_l 162 d222_161 rfl rfl rfl rfl ?_
            refine wq_a 163 d222_162 rfl rfl ?_
            refine wq_l 165 d222_163 rfl rfl rfl rfl ?_
            refine wq_a 166 d222_165 rfl rfl ?_
            refine wq_a 167 d222_166 rfl rfl ?_
            rw [lN_i, show (256 : Int32) = nI 256 from rfl, pk_mul, nI_add]
            refine wq_pf (ci := 10) (j := 5) 170 d222_167 rfl rfl rfl ⟨rfl, rfl⟩ rfl ?_
            refine wq_rv d222_170 ?_
            exact hg
          · -- pc 142
            have hb : ¬ (A ≠ 9 ∧ (c2 = 88 ∨ c2 = 87) ∧ e ≠ p + 3 ∧ V ≤ (if c2 = 88 then 255 else 63) ∧ lx_np (lx_i t M e) = false) := by
              rintro ⟨g1, g2, g3, g4, g5⟩
              have g4' : (c2 = 88 → V ≤ 255) ∧ (c2 ≠ 88 → V ≤ 63) := by by_cases q : c2 = 88; (rw [if_pos q] at g4; exact ⟨fun _ => g4, fun z => absurd q z⟩); (rw [if_neg q] at g4; exact ⟨fun z => absurd z q, fun _ => g4⟩)
              first
                | (have z := c87; simp only [i_lt, i_le, i_eq, ne_eq, Int32.reduceToInt, b2_0, b2_1, decide_eq_true_eq, decide_eq_false_iff_not, Bool.not_eq_true, Bool.not_eq_false, eK] at z; omega)
                | (have z := c108; simp only [lc_lt, lc_gt, lc_le, lc_eq, el9, em1, e255, e63, gt_iff_lt] at z; omega)
                | (have z := c115; have z2 := c128; simp only [i_lt, i_le, i_eq, ne_eq, Int32.reduceToInt, b2_0, b2_1, decide_eq_true_eq, decide_eq_false_iff_not, Bool.not_eq_true, Bool.not_eq_false, eK] at z; simp only [lc_lt, lc_gt, lc_le, lc_eq, el9, em1, e255, e63, gt_iff_lt] at z2; omega)
                | (have z := c139; simp only [i_lt, i_le, i_eq, ne_eq, Int32.reduceToInt, b2_0, b2_1, decide_eq_true_eq, decide_eq_false_iff_not, Bool.not_eq_true, Bool.not_eq_false, e0] at z; rw [g5] at z; first | exact absurd rfl z | cases z)
            refine wq_l 143 d222_142 rfl rfl rfl rfl ?_
            refine wq_k 144 5 d222_143 (by decide) rfl ?_
            refine wq_l 145 d222_144 rfl rfl rfl rfl ?_
            refine wq_gi (ci := 10) (j := 4) 148 d222_145 rfl rfl rfl rfl ?_
            rw [h4]
            refine wq_v 151 [_, _] d222_148 rfl rfl m206 rfl rfl (Nat.le_of_ble_eq_true rfl) rfl (sp206 (h6 _) ?_)
            exact wq_rv d222_151 (hbad hb _)
      · -- pc 118
        refine wq_cl 121 d222_118 rfl rfl ?_
        refine wq_g 127 d222_121 (by decide) ?_
        refine wq_a 128 d222_127 rfl rfl ?_
        refine wq_b 142 131 d222_128 rfl (by decide) rfl (fun c128 => ?_) (fun c128 => ?_)
        · -- pc 142
          have hb : ¬ (A ≠ 9 ∧ (c2 = 88 ∨ c2 = 87) ∧ e ≠ p + 3 ∧ V ≤ (if c2 = 88 then 255 else 63) ∧ lx_np (lx_i t M e) = false) := by
            rintro ⟨g1, g2, g3, g4, g5⟩
            have g4' : (c2 = 88 → V ≤ 255) ∧ (c2 ≠ 88 → V ≤ 63) := by by_cases q : c2 = 88; (rw [if_pos q] at g4; exact ⟨fun _ => g4, fun z => absurd q z⟩); (rw [if_neg q] at g4; exact ⟨fun z => absurd z q, fun _ => g4⟩)
            first
              | (have z := c87; simp only [i_lt, i_le, i_eq, ne_eq, Int32.reduceToInt, b2_0, b2_1, decide_eq_true_eq, decide_eq_false_iff_not, Bool.not_eq_true, Bool.not_eq_false, eK] at z; omega)
              | (have z := c108; simp only [lc_lt, lc_gt, lc_le, lc_eq, el9, em1, e255, e63, gt_iff_lt] at z; omega)
              | (have z := c115; have z2 := c128; simp only [i_lt, i_le, i_eq, ne_eq, Int32.reduceToInt, b2_0, b2_1, decide_eq_true_eq, decide_eq_false_iff_not, Bool.not_eq_true, Bool.not_eq_false, eK] at z; simp only [lc_lt, lc_gt, lc_le, lc_eq, el9, em1, e255, e63, gt_iff_lt] at z2; omega)
              | (have z := c139; simp only [i_lt, i_le, i_eq, ne_eq, Int32.reduceToInt, b2_0, b2_1, decide_eq_true_eq, decide_eq_false_iff_not, Bool.not_eq_true, Bool.not_eq_false, e0] at z; rw [g5] at z; first | exact absurd rfl z | cases z)
          refine wq_l 143 d222_142 rfl rfl rfl rfl ?_
          refine wq_k 144 5 d222_143 (by decide) rfl ?_
          refine wq_l 145 d222_144 rfl rfl rfl rfl ?_
          refine wq_gi (ci := 10) (j := 4) 148 d222_145 rfl rfl rfl rfl ?_
          rw [h4]
          refine wq_v 151 [_, _] d222_148 rfl rfl m206 rfl rfl (Nat.le_of_ble_eq_true rfl) rfl (sp206 (h6 _) ?_)
          exact wq_rv d222_151 (hbad hb _)
        · -- pc 131
          refine wq_l 132 d222_131 rfl rfl rfl rfl ?_
          refine wq_k 133 0 d222_132 (by decide) rfl ?_
          refine wq_v 136 [_] d222_133 rfl rfl m205 rfl rfl (Nat.le_of_ble_eq_true rfl) rfl (sp205z hT (by omega) ?_)
          refine wq_vs 139 [_] d222_136 rfl rfl m213 rfl (Nat.le_of_ble_eq_true rfl) rfl (sp213 ?_)
          refine wq_b 152 142 d222_139 rfl (by decide) rfl (fun c139 => ?_) (fun c139 => ?_)
          · -- pc 152
            have hgg : (A ≠ 9 ∧ (c2 = 88 ∨ c2 = 87) ∧ e ≠ p + 3 ∧ V ≤ (if c2 = 88 then 255 else 63) ∧ lx_np (lx_i t M e) = false) ∧ W = lN V := by
              first
                | (exfalso; have z0 := c87; have z := c108; simp only [i_lt, i_le, i_eq, ne_eq, Int32.reduceToInt, b2_0, b2_1, decide_eq_true_eq, decide_eq_false_iff_not, Bool.not_eq_true, Bool.not_eq_false, eK] at z0; simp only [lc_lt, lc_gt, lc_le, lc_eq, el9, em1, e255, e63, gt_iff_lt] at z; omega)
                | (have z0 := c87; have z := c108; have z1 := c115; have z2 := c128; have z3 := c139
                   simp only [i_lt, i_le, i_eq, ne_eq, Int32.reduceToInt, b2_0, b2_1, decide_eq_true_eq, decide_eq_false_iff_not, Bool.not_eq_true, Bool.not_eq_false, eK] at z0 z1
                   simp only [lc_lt, lc_gt, lc_le, lc_eq, el9, em1, e255, e63, gt_iff_lt] at z z2
                   simp only [i_lt, i_le, i_eq, ne_eq, Int32.reduceToInt, b2_0, b2_1, decide_eq_true_eq, decide_eq_false_iff_not, Bool.not_eq_true, Bool.not_eq_false, e0] at z3
                   have h9 : e ≠ p + 3 := by omega
                   obtain ⟨_, w1, w2⟩ := hWi.resolve_left (fun q => h9 q.1)
                   have h88 : V ≤ (if c2 = 88 then 255 else 63) ∧ V ≤ 255 := by
                     by_cases q : c2 = 88
                     · rw [if_pos q]; omega
                     · rw [if_neg q]; omega
                   exact ⟨⟨by omega, by omega, h9, h88.1, z3⟩, by rw [w1, show min V 4000000000 = V by omega]⟩)
            have hg := hgd hgg.1
            rw [hgg.2]
            refine wq_l 153 d222_152 rfl rfl rfl rfl ?_
            refine wq_k 154 3 d222_153 (by decide) rfl ?_
            refine wq_pf (ci := 10) (j := 3) 157 d222_154 rfl rfl rfl ⟨rfl, rfl⟩ rfl ?_
            refine wq_l 158 d222_157 rfl rfl rfl rfl ?_
            refine wq_k 161 256 d222_158 (by decide) rfl ?_
            refine wq_l 162 d222_161 rfl rfl rfl rfl ?_
            refine wq_a 163 d222_162 rfl rfl ?_
            refine wq_l 165 d222_163 rfl rfl rfl rfl ?_
            refine wq_a 166 d222_165 rfl rfl ?_
            refine wq_a 167 d222_166 rfl rfl ?_
            rw [lN_i, show (256 : Int32) = nI 256 from rfl, pk_mul, nI_add]
            refine wq_pf (ci := 10) (j := 5) 170 d222_167 rfl rfl rfl ⟨rfl, rfl⟩ rfl ?_
            refine wq_rv d222_170 ?_
            exact hg
          · -- pc 142
            have hb : ¬ (A ≠ 9 ∧ (c2 = 88 ∨ c2 = 87) ∧ e ≠ p + 3 ∧ V ≤ (if c2 = 88 then 255 else 63) ∧ lx_np (lx_i t M e) = false) := by
              rintro ⟨g1, g2, g3, g4, g5⟩
              have g4' : (c2 = 88 → V ≤ 255) ∧ (c2 ≠ 88 → V ≤ 63) := by by_cases q : c2 = 88; (rw [if_pos q] at g4; exact ⟨fun _ => g4, fun z => absurd q z⟩); (rw [if_neg q] at g4; exact ⟨fun z => absurd z q, fun _ => g4⟩)
              first
                | (have z := c87; simp only [i_lt, i_le, i_eq, ne_eq, Int32.reduceToInt, b2_0, b2_1, decide_eq_true_eq, decide_eq_false_iff_not, Bool.not_eq_true, Bool.not_eq_false, eK] at z; omega)
                | (have z := c108; simp only [lc_lt, lc_gt, lc_le, lc_eq, el9, em1, e255, e63, gt_iff_lt] at z; omega)
                | (have z := c115; have z2 := c128; simp only [i_lt, i_le, i_eq, ne_eq, Int32.reduceToInt, b2_0, b2_1, decide_eq_true_eq, decide_eq_false_iff_not, Bool.not_eq_true, Bool.not_eq_false, eK] at z; simp only [lc_lt, lc_gt, lc_le, lc_eq, el9, em1, e255, e63, gt_iff_lt] at z2; omega)
                | (have z := c139; simp only [i_lt, i_le, i_eq, ne_eq, Int32.reduceToInt, b2_0, b2_1, decide_eq_true_eq, decide_eq_false_iff_not, Bool.not_eq_true, Bool.not_eq_false, e0] at z; rw [g5] at z; first | exact absurd rfl z | cases z)
            refine wq_l 143 d222_142 rfl rfl rfl rfl ?_
            refine wq_k 144 5 d222_143 (by decide) rfl ?_
            refine wq_l 145 d222_144 rfl rfl rfl rfl ?_
            refine wq_gi (ci := 10) (j := 4) 148 d222_145 rfl rfl rfl rfl ?_
            rw [h4]
            refine wq_v 151 [_, _] d222_148 rfl rfl m206 rfl rfl (Nat.le_of_ble_eq_true rfl) rfl (sp206 (h6 _) ?_)
            exact wq_rv d222_151 (hbad hb _)
theorem sp222 {d : Nat} {σ : pm_S} {Q : Option Value → pm_S → Prop} {t : Nat → Nat} {M : Nat} {p : Nat} (hT : rx_T σ t M) (h0 : rx_0 σ p) (hp : p < M) (hQ : rx_Q Q σ p (lx_pla t M p)) : pm_call pm_Y0 (d + 5) 222 [.ref 10] (rs σ p) Q := by
  have hM := hT.2.1
  have ht := hT.2.2.2
  have e1 := lx_gci (M := M) ht (p + 1)
  have e2 := lx_gci (M := M) ht (p + 2)
  have hsz := rx_szc (lx_gi t M (p + 2))
  have har := rx_arc (lx_gi t M (p + 1))
  have fin : ∀ k, k < 20 → k = lx_area (lx_gi t M (p + 1)) + rx_sz (lx_gi t M (p + 2)) → ∀ x y : Int32, x + y = nI k → ∀ v1 v2 x4 x5 : Value, pm_WP pm_Y0 (pm_call pm_Y0 (d + 4)) 10 prog_14_method_21_code none Q 74 [.ref 10, v1, v2, .int (x + y), x4, x5] [] (rs σ p) := fun k _ hk x y hxy v1 v2 x4 x5 => by rw [hxy]; exact rx_p74 hT h0 hp hk hQ
  refine wq_m m222 (Nat.le_of_ble_eq_true rfl) (by decide) rfl ?_
  refine wq_l 1 d222_0 rfl rfl rfl rfl ?_
  refine wq_k 2 1 d222_1 (by decide) rfl ?_
  refine wq_v 5 [_] d222_2 rfl rfl m205 rfl rfl (Nat.le_of_ble_eq_true rfl) rfl (sp205 (k := 1) hT (by omega) ?_)
  refine wq_vs 8 [_] d222_5 rfl rfl m211 rfl (Nat.le_of_ble_eq_true rfl) rfl (sp211 ?_)
  rw [rx_gc ht]
  refine wq_s 9 d222_8 rfl rfl (Nat.le_of_ble_eq_true rfl) rfl rfl ?_
  refine wq_l 10 d222_9 rfl rfl rfl rfl ?_
  refine wq_k 11 2 d222_10 (by decide) rfl ?_
  refine wq_v 14 [_] d222_11 rfl rfl m205 rfl rfl (Nat.le_of_ble_eq_true rfl) rfl (sp205 (k := 2) hT (by omega) ?_)
  refine wq_vs 17 [_] d222_14 rfl rfl m211 rfl (Nat.le_of_ble_eq_true rfl) rfl (sp211 ?_)
  rw [rx_gc ht]
  refine wq_s 18 d222_17 rfl rfl (Nat.le_of_ble_eq_true rfl) rfl rfl ?_
  refine wq_l 19 d222_18 rfl rfl rfl rfl ?_
  refine wq_k 21 73 d222_19 (by decide) rfl ?_
  refine wq_b 28 24 d222_21 rfl (by decide) rfl (fun c21 => ?_) (fun c21 => ?_)
  · -- pc 28
    refine wq_l 29 d222_28 rfl rfl rfl rfl ?_
    refine wq_k 31 81 d222_29 (by decide) rfl ?_
    refine wq_b 38 34 d222_31 rfl (by decide) rfl (fun c31 => ?_) (fun c31 => ?_)
    · -- pc 38
      refine wq_l 39 d222_38 rfl rfl rfl rfl ?_
      refine wq_k 41 77 d222_39 (by decide) rfl ?_
      refine wq_b 48 44 d222_41 rfl (by decide) rfl (fun c41 => ?_) (fun c41 => ?_)
      · -- pc 48
        refine wq_k 50 9 d222_48 (by decide) rfl ?_
        refine wq_l 51 d222_50 rfl rfl rfl rfl ?_
        refine wq_k 53 88 d222_51 (by decide) rfl ?_
        refine wq_b 60 56 d222_53 rfl (by decide) rfl (fun c53 => ?_) (fun c53 => ?_)
        · -- pc 60
          refine wq_l 61 d222_60 rfl rfl rfl rfl ?_
          refine wq_k 63 87 d222_61 (by decide) rfl ?_
          refine wq_b 70 66 d222_63 rfl (by decide) rfl (fun c63 => ?_) (fun c63 => ?_)
          · -- pc 70
            refine wq_k 72 9 d222_70 (by decide) rfl ?_
            refine wq_a 73 d222_72 rfl rfl ?_
            refine wq_s 74 d222_73 rfl rfl (Nat.le_of_ble_eq_true rfl) rfl rfl ?_
            refine fin (lx_area (lx_gi t M (p + 1)) + rx_sz (lx_gi t M (p + 2))) (by omega) rfl _ _ ?_ _ _ _ _
            simp only [i_lt, i_le, i_eq, ne_eq, Int32.reduceToInt, b2_0, b2_1, decide_eq_true_eq, decide_eq_false_iff_not, Bool.not_eq_true, Bool.not_eq_false, e1, e2] at *
            first
              | (rw [show lx_area (lx_gi t M (p + 1)) = 0 by omega, show rx_sz (lx_gi t M (p + 2)) = 0 by omega]; rfl)
              | (rw [show lx_area (lx_gi t M (p + 1)) = 0 by omega, show rx_sz (lx_gi t M (p + 2)) = 3 by omega]; rfl)
              | (rw [show lx_area (lx_gi t M (p + 1)) = 0 by omega, show rx_sz (lx_gi t M (p + 2)) = 9 by omega]; rfl)
              | (rw [show lx_area (lx_gi t M (p + 1)) = 1 by omega, show rx_sz (lx_gi t M (p + 2)) = 0 by omega]; rfl)
              | (rw [show lx_area (lx_gi t M (p + 1)) = 1 by omega, show rx_sz (lx_gi t M (p + 2)) = 3 by omega]; rfl)
              | (rw [show lx_area (lx_gi t M (p + 1)) = 1 by omega, show rx_sz (lx_gi t M (p + 2)) = 9 by omega]; rfl)
              | (rw [show lx_area (lx_gi t M (p + 1)) = 2 by omega, show rx_sz (lx_gi t M (p + 2)) = 0 by omega]; rfl)
              | (rw [show lx_area (lx_gi t M (p + 1)) = 2 by omega, show rx_sz (lx_gi t M (p + 2)) = 3 by omega]; rfl)
              | (rw [show lx_area (lx_gi t M (p + 1)) = 2 by omega, show rx_sz (lx_gi t M (p + 2)) = 9 by omega]; rfl)
              | (rw [show lx_area (lx_gi t M (p + 1)) = 9 by omega, show rx_sz (lx_gi t M (p + 2)) = 0 by omega]; rfl)
              | (rw [show lx_area (lx_gi t M (p + 1)) = 9 by omega, show rx_sz (lx_gi t M (p + 2)) = 3 by omega]; rfl)
              | (rw [show lx_area (lx_gi t M (p + 1)) = 9 by omega, show rx_sz (lx_gi t M (p + 2)) = 9 by omega]; rfl)
          · -- pc 66
            refine wq_k 67 3 d222_66 (by decide) rfl ?_
            refine wq_g 72 d222_67 (by decide) ?_
            refine wq_a 73 d222_72 rfl rfl ?_
            refine wq_s 74 d222_73 rfl rfl (Nat.le_of_ble_eq_true rfl) rfl rfl ?_
            refine fin (lx_area (lx_gi t M (p + 1)) + rx_sz (lx_gi t M (p + 2))) (by omega) rfl _ _ ?_ _ _ _ _
            simp only [i_lt, i_le, i_eq, ne_eq, Int32.reduceToInt, b2_0, b2_1, decide_eq_true_eq, decide_eq_false_iff_not, Bool.not_eq_true, Bool.not_eq_false, e1, e2] at *
            first
              | (rw [show lx_area (lx_gi t M (p + 1)) = 0 by omega, show rx_sz (lx_gi t M (p + 2)) = 0 by omega]; rfl)
              | (rw [show lx_area (lx_gi t M (p + 1)) = 0 by omega, show rx_sz (lx_gi t M (p + 2)) = 3 by omega]; rfl)
              | (rw [show lx_area (lx_gi t M (p + 1)) = 0 by omega, show rx_sz (lx_gi t M (p + 2)) = 9 by omega]; rfl)
              | (rw [show lx_area (lx_gi t M (p + 1)) = 1 by omega, show rx_sz (lx_gi t M (p + 2)) = 0 by omega]; rfl)
              | (rw [show lx_area (lx_gi t M (p + 1)) = 1 by omega, show rx_sz (lx_gi t M (p + 2)) = 3 by omega]; rfl)
              | (rw [show lx_area (lx_gi t M (p + 1)) = 1 by omega, show rx_sz (lx_gi t M (p + 2)) = 9 by omega]; rfl)
              | (rw [show lx_area (lx_gi t M (p + 1)) = 2 by omega, show rx_sz (lx_gi t M (p + 2)) = 0 by omega]; rfl)
              | (rw [show lx_area (lx_gi t M (p + 1)) = 2 by omega, show rx_sz (lx_gi t M (p + 2)) = 3 by omega]; rfl)
              | (rw [show lx_area (lx_gi t M (p + 1)) = 2 by omega, show rx_sz (lx_gi t M (p + 2)) = 9 by omega]; rfl)
              | (rw [show lx_area (lx_gi t M (p + 1)) = 9 by omega, show rx_sz (lx_gi t M (p + 2)) = 0 by omega]; rfl)
              | (rw [show lx_area (lx_gi t M (p + 1)) = 9 by omega, show rx_sz (lx_gi t M (p + 2)) = 3 by omega]; rfl)
              | (rw [show lx_area (lx_gi t M (p + 1)) = 9 by omega, show rx_sz (lx_gi t M (p + 2)) = 9 by omega]; rfl)
        · -- pc 56
          refine wq_k 57 0 d222_56 (by decide) rfl ?_
          refine wq_g 72 d222_57 (by decide) ?_
          refine wq_a 73 d222_72 rfl rfl ?_
          refine wq_s 74 d222_73 rfl rfl (Nat.le_of_ble_eq_true rfl) rfl rfl ?_
          refine fin (lx_area (lx_gi t M (p + 1)) + rx_sz (lx_gi t M (p + 2))) (by omega) rfl _ _ ?_ _ _ _ _
          simp only [i_lt, i_le, i_eq, ne_eq, Int32.reduceToInt, b2_0, b2_1, decide_eq_true_eq, decide_eq_false_iff_not, Bool.not_eq_true, Bool.not_eq_false, e1, e2] at *
          first
            | (rw [show lx_area (lx_gi t M (p + 1)) = 0 by omega, show rx_sz (lx_gi t M (p + 2)) = 0 by omega]; rfl)
            | (rw [show lx_area (lx_gi t M (p + 1)) = 0 by omega, show rx_sz (lx_gi t M (p + 2)) = 3 by omega]; rfl)
            | (rw [show lx_area (lx_gi t M (p + 1)) = 0 by omega, show rx_sz (lx_gi t M (p + 2)) = 9 by omega]; rfl)
            | (rw [show lx_area (lx_gi t M (p + 1)) = 1 by omega, show rx_sz (lx_gi t M (p + 2)) = 0 by omega]; rfl)
            | (rw [show lx_area (lx_gi t M (p + 1)) = 1 by omega, show rx_sz (lx_gi t M (p + 2)) = 3 by omega]; rfl)
            | (rw [show lx_area (lx_gi t M (p + 1)) = 1 by omega, show rx_sz (lx_gi t M (p + 2)) = 9 by omega]; rfl)
            | (rw [show lx_area (lx_gi t M (p + 1)) = 2 by omega, show rx_sz (lx_gi t M (p + 2)) = 0 by omega]; rfl)
            | (rw [show lx_area (lx_gi t M (p + 1)) = 2 by omega, show rx_sz (lx_gi t M (p + 2)) = 3 by omega]; rfl)
            | (rw [show lx_area (lx_gi t M (p + 1)) = 2 by omega, show rx_sz (lx_gi t M (p + 2)) = 9 by omega]; rfl)
            | (rw [show lx_area (lx_gi t M (p + 1)) = 9 by omega, show rx_sz (lx_gi t M (p + 2)) = 0 by omega]; rfl)
            | (rw [show lx_area (lx_gi t M (p + 1)) = 9 by omega, show rx_sz (lx_gi t M (p + 2)) = 3 by omega]; rfl)
            | (rw [show lx_area (lx_gi t M (p + 1)) = 9 by omega, show rx_sz (lx_gi t M (p + 2)) = 9 by omega]; rfl)
      · -- pc 44
        refine wq_k 45 2 d222_44 (by decide) rfl ?_
        refine wq_g 50 d222_45 (by decide) ?_
        refine wq_l 51 d222_50 rfl rfl rfl rfl ?_
        refine wq_k 53 88 d222_51 (by decide) rfl ?_
        refine wq_b 60 56 d222_53 rfl (by decide) rfl (fun c53 => ?_) (fun c53 => ?_)
        · -- pc 60
          refine wq_l 61 d222_60 rfl rfl rfl rfl ?_
          refine wq_k 63 87 d222_61 (by decide) rfl ?_
          refine wq_b 70 66 d222_63 rfl (by decide) rfl (fun c63 => ?_) (fun c63 => ?_)
          · -- pc 70
            refine wq_k 72 9 d222_70 (by decide) rfl ?_
            refine wq_a 73 d222_72 rfl rfl ?_
            refine wq_s 74 d222_73 rfl rfl (Nat.le_of_ble_eq_true rfl) rfl rfl ?_
            refine fin (lx_area (lx_gi t M (p + 1)) + rx_sz (lx_gi t M (p + 2))) (by omega) rfl _ _ ?_ _ _ _ _
            simp only [i_lt, i_le, i_eq, ne_eq, Int32.reduceToInt, b2_0, b2_1, decide_eq_true_eq, decide_eq_false_iff_not, Bool.not_eq_true, Bool.not_eq_false, e1, e2] at *
            first
              | (rw [show lx_area (lx_gi t M (p + 1)) = 0 by omega, show rx_sz (lx_gi t M (p + 2)) = 0 by omega]; rfl)
              | (rw [show lx_area (lx_gi t M (p + 1)) = 0 by omega, show rx_sz (lx_gi t M (p + 2)) = 3 by omega]; rfl)
              | (rw [show lx_area (lx_gi t M (p + 1)) = 0 by omega, show rx_sz (lx_gi t M (p + 2)) = 9 by omega]; rfl)
              | (rw [show lx_area (lx_gi t M (p + 1)) = 1 by omega, show rx_sz (lx_gi t M (p + 2)) = 0 by omega]; rfl)
              | (rw [show lx_area (lx_gi t M (p + 1)) = 1 by omega, show rx_sz (lx_gi t M (p + 2)) = 3 by omega]; rfl)
              | (rw [show lx_area (lx_gi t M (p + 1)) = 1 by omega, show rx_sz (lx_gi t M (p + 2)) = 9 by omega]; rfl)
              | (rw [show lx_area (lx_gi t M (p + 1)) = 2 by omega, show rx_sz (lx_gi t M (p + 2)) = 0 by omega]; rfl)
              | (rw [show lx_area (lx_gi t M (p + 1)) = 2 by omega, show rx_sz (lx_gi t M (p + 2)) = 3 by omega]; rfl)
              | (rw [show lx_area (lx_gi t M (p + 1)) = 2 by omega, show rx_sz (lx_gi t M (p + 2)) = 9 by omega]; rfl)
              | (rw [show lx_area (lx_gi t M (p + 1)) = 9 by omega, show rx_sz (lx_gi t M (p + 2)) = 0 by omega]; rfl)
              | (rw [show lx_area (lx_gi t M (p + 1)) = 9 by omega, show rx_sz (lx_gi t M (p + 2)) = 3 by omega]; rfl)
              | (rw [show lx_area (lx_gi t M (p + 1)) = 9 by omega, show rx_sz (lx_gi t M (p + 2)) = 9 by omega]; rfl)
          · -- pc 66
            refine wq_k 67 3 d222_66 (by decide) rfl ?_
            refine wq_g 72 d222_67 (by decide) ?_
            refine wq_a 73 d222_72 rfl rfl ?_
            refine wq_s 74 d222_73 rfl rfl (Nat.le_of_ble_eq_true rfl) rfl rfl ?_
            refine fin (lx_area (lx_gi t M (p + 1)) + rx_sz (lx_gi t M (p + 2))) (by omega) rfl _ _ ?_ _ _ _ _
            simp only [i_lt, i_le, i_eq, ne_eq, Int32.reduceToInt, b2_0, b2_1, decide_eq_true_eq, decide_eq_false_iff_not, Bool.not_eq_true, Bool.not_eq_false, e1, e2] at *
            first
              | (rw [show lx_area (lx_gi t M (p + 1)) = 0 by omega, show rx_sz (lx_gi t M (p + 2)) = 0 by omega]; rfl)
              | (rw [show lx_area (lx_gi t M (p + 1)) = 0 by omega, show rx_sz (lx_gi t M (p + 2)) = 3 by omega]; rfl)
              | (rw [show lx_area (lx_gi t M (p + 1)) = 0 by omega, show rx_sz (lx_gi t M (p + 2)) = 9 by omega]; rfl)
              | (rw [show lx_area (lx_gi t M (p + 1)) = 1 by omega, show rx_sz (lx_gi t M (p + 2)) = 0 by omega]; rfl)
              | (rw [show lx_area (lx_gi t M (p + 1)) = 1 by omega, show rx_sz (lx_gi t M (p + 2)) = 3 by omega]; rfl)
              | (rw [show lx_area (lx_gi t M (p + 1)) = 1 by omega, show rx_sz (lx_gi t M (p + 2)) = 9 by omega]; rfl)
              | (rw [show lx_area (lx_gi t M (p + 1)) = 2 by omega, show rx_sz (lx_gi t M (p + 2)) = 0 by omega]; rfl)
              | (rw [show lx_area (lx_gi t M (p + 1)) = 2 by omega, show rx_sz (lx_gi t M (p + 2)) = 3 by omega]; rfl)
              | (rw [show lx_area (lx_gi t M (p + 1)) = 2 by omega, show rx_sz (lx_gi t M (p + 2)) = 9 by omega]; rfl)
              | (rw [show lx_area (lx_gi t M (p + 1)) = 9 by omega, show rx_sz (lx_gi t M (p + 2)) = 0 by omega]; rfl)
              | (rw [show lx_area (lx_gi t M (p + 1)) = 9 by omega, show rx_sz (lx_gi t M (p + 2)) = 3 by omega]; rfl)
              | (rw [show lx_area (lx_gi t M (p + 1)) = 9 by omega, show rx_sz (lx_gi t M (p + 2)) = 9 by omega]; rfl)
        · -- pc 56
          refine wq_k 57 0 d222_56 (by decide) rfl ?_
          refine wq_g 72 d222_57 (by decide) ?_
          refine wq_a 73 d222_72 rfl rfl ?_
          refine wq_s 74 d222_73 rfl rfl (Nat.le_of_ble_eq_true rfl) rfl rfl ?_
          refine fin (lx_area (lx_gi t M (p + 1)) + rx_sz (lx_gi t M (p + 2))) (by omega) rfl _ _ ?_ _ _ _ _
          simp only [i_lt, i_le, i_eq, ne_eq, Int32.reduceToInt, b2_0, b2_1, decide_eq_true_eq, decide_eq_false_iff_not, Bool.not_eq_true, Bool.not_eq_false, e1, e2] at *
          first
            | (rw [show lx_area (lx_gi t M (p + 1)) = 0 by omega, show rx_sz (lx_gi t M (p + 2)) = 0 by omega]; rfl)
            | (rw [show lx_area (lx_gi t M (p + 1)) = 0 by omega, show rx_sz (lx_gi t M (p + 2)) = 3 by omega]; rfl)
            | (rw [show lx_area (lx_gi t M (p + 1)) = 0 by omega, show rx_sz (lx_gi t M (p + 2)) = 9 by omega]; rfl)
            | (rw [show lx_area (lx_gi t M (p + 1)) = 1 by omega, show rx_sz (lx_gi t M (p + 2)) = 0 by omega]; rfl)
            | (rw [show lx_area (lx_gi t M (p + 1)) = 1 by omega, show rx_sz (lx_gi t M (p + 2)) = 3 by omega]; rfl)
            | (rw [show lx_area (lx_gi t M (p + 1)) = 1 by omega, show rx_sz (lx_gi t M (p + 2)) = 9 by omega]; rfl)
            | (rw [show lx_area (lx_gi t M (p + 1)) = 2 by omega, show rx_sz (lx_gi t M (p + 2)) = 0 by omega]; rfl)
            | (rw [show lx_area (lx_gi t M (p + 1)) = 2 by omega, show rx_sz (lx_gi t M (p + 2)) = 3 by omega]; rfl)
            | (rw [show lx_area (lx_gi t M (p + 1)) = 2 by omega, show rx_sz (lx_gi t M (p + 2)) = 9 by omega]; rfl)
            | (rw [show lx_area (lx_gi t M (p + 1)) = 9 by omega, show rx_sz (lx_gi t M (p + 2)) = 0 by omega]; rfl)
            | (rw [show lx_area (lx_gi t M (p + 1)) = 9 by omega, show rx_sz (lx_gi t M (p + 2)) = 3 by omega]; rfl)
            | (rw [show lx_area (lx_gi t M (p + 1)) = 9 by omega, show rx_sz (lx_gi t M (p + 2)) = 9 by omega]; rfl)
    · -- pc 34
      refine wq_k 35 1 d222_34 (by decide) rfl ?_
      refine wq_g 50 d222_35 (by decide) ?_
      refine wq_l 51 d222_50 rfl rfl rfl rfl ?_
      refine wq_k 53 88 d222_51 (by decide) rfl ?_
      refine wq_b 60 56 d222_53 rfl (by decide) rfl (fun c53 => ?_) (fun c53 => ?_)
      · -- pc 60
        refine wq_l 61 d222_60 rfl rfl rfl rfl ?_
        refine wq_k 63 87 d222_61 (by decide) rfl ?_
        refine wq_b 70 66 d222_63 rfl (by decide) rfl (fun c63 => ?_) (fun c63 => ?_)
        · -- pc 70
          refine wq_k 72 9 d222_70 (by decide) rfl ?_
          refine wq_a 73 d222_72 rfl rfl ?_
          refine wq_s 74 d222_73 rfl rfl (Nat.le_of_ble_eq_true rfl) rfl rfl ?_
          refine fin (lx_area (lx_gi t M (p + 1)) + rx_sz (lx_gi t M (p + 2))) (by omega) rfl _ _ ?_ _ _ _ _
          simp only [i_lt, i_le, i_eq, ne_eq, Int32.reduceToInt, b2_0, b2_1, decide_eq_true_eq, decide_eq_false_iff_not, Bool.not_eq_true, Bool.not_eq_false, e1, e2] at *
          first
            | (rw [show lx_area (lx_gi t M (p + 1)) = 0 by omega, show rx_sz (lx_gi t M (p + 2)) = 0 by omega]; rfl)
            | (rw [show lx_area (lx_gi t M (p + 1)) = 0 by omega, show rx_sz (lx_gi t M (p + 2)) = 3 by omega]; rfl)
            | (rw [show lx_area (lx_gi t M (p + 1)) = 0 by omega, show rx_sz (lx_gi t M (p + 2)) = 9 by omega]; rfl)
            | (rw [show lx_area (lx_gi t M (p + 1)) = 1 by omega, show rx_sz (lx_gi t M (p + 2)) = 0 by omega]; rfl)
            | (rw [show lx_area (lx_gi t M (p + 1)) = 1 by omega, show rx_sz (lx_gi t M (p + 2)) = 3 by omega]; rfl)
            | (rw [show lx_area (lx_gi t M (p + 1)) = 1 by omega, show rx_sz (lx_gi t M (p + 2)) = 9 by omega]; rfl)
            | (rw [show lx_area (lx_gi t M (p + 1)) = 2 by omega, show rx_sz (lx_gi t M (p + 2)) = 0 by omega]; rfl)
            | (rw [show lx_area (lx_gi t M (p + 1)) = 2 by omega, show rx_sz (lx_gi t M (p + 2)) = 3 by omega]; rfl)
            | (rw [show lx_area (lx_gi t M (p + 1)) = 2 by omega, show rx_sz (lx_gi t M (p + 2)) = 9 by omega]; rfl)
            | (rw [show lx_area (lx_gi t M (p + 1)) = 9 by omega, show rx_sz (lx_gi t M (p + 2)) = 0 by omega]; rfl)
            | (rw [show lx_area (lx_gi t M (p + 1)) = 9 by omega, show rx_sz (lx_gi t M (p + 2)) = 3 by omega]; rfl)
            | (rw [show lx_area (lx_gi t M (p + 1)) = 9 by omega, show rx_sz (lx_gi t M (p + 2)) = 9 by omega]; rfl)
        · -- pc 66
          refine wq_k 67 3 d222_66 (by decide) rfl ?_
          refine wq_g 72 d222_67 (by decide) ?_
          refine wq_a 73 d222_72 rfl rfl ?_
          refine wq_s 74 d222_73 rfl rfl (Nat.le_of_ble_eq_true rfl) rfl rfl ?_
          refine fin (lx_area (lx_gi t M (p + 1)) + rx_sz (lx_gi t M (p + 2))) (by omega) rfl _ _ ?_ _ _ _ _
          simp only [i_lt, i_le, i_eq, ne_eq, Int32.reduceToInt, b2_0, b2_1, decide_eq_true_eq, decide_eq_false_iff_not, Bool.not_eq_true, Bool.not_eq_false, e1, e2] at *
          first
            | (rw [show lx_area (lx_gi t M (p + 1)) = 0 by omega, show rx_sz (lx_gi t M (p + 2)) = 0 by omega]; rfl)
            | (rw [show lx_area (lx_gi t M (p + 1)) = 0 by omega, show rx_sz (lx_gi t M (p + 2)) = 3 by omega]; rfl)
            | (rw [show lx_area (lx_gi t M (p + 1)) = 0 by omega, show rx_sz (lx_gi t M (p + 2)) = 9 by omega]; rfl)
            | (rw [show lx_area (lx_gi t M (p + 1)) = 1 by omega, show rx_sz (lx_gi t M (p + 2)) = 0 by omega]; rfl)
            | (rw [show lx_area (lx_gi t M (p + 1)) = 1 by omega, show rx_sz (lx_gi t M (p + 2)) = 3 by omega]; rfl)
            | (rw [show lx_area (lx_gi t M (p + 1)) = 1 by omega, show rx_sz (lx_gi t M (p + 2)) = 9 by omega]; rfl)
            | (rw [show lx_area (lx_gi t M (p + 1)) = 2 by omega, show rx_sz (lx_gi t M (p + 2)) = 0 by omega]; rfl)
            | (rw [show lx_area (lx_gi t M (p + 1)) = 2 by omega, show rx_sz (lx_gi t M (p + 2)) = 3 by omega]; rfl)
            | (rw [show lx_area (lx_gi t M (p + 1)) = 2 by omega, show rx_sz (lx_gi t M (p + 2)) = 9 by omega]; rfl)
            | (rw [show lx_area (lx_gi t M (p + 1)) = 9 by omega, show rx_sz (lx_gi t M (p + 2)) = 0 by omega]; rfl)
            | (rw [show lx_area (lx_gi t M (p + 1)) = 9 by omega, show rx_sz (lx_gi t M (p + 2)) = 3 by omega]; rfl)
            | (rw [show lx_area (lx_gi t M (p + 1)) = 9 by omega, show rx_sz (lx_gi t M (p + 2)) = 9 by omega]; rfl)
      · -- pc 56
        refine wq_k 57 0 d222_56 (by decide) rfl ?_
        refine wq_g 72 d222_57 (by decide) ?_
        refine wq_a 73 d222_72 rfl rfl ?_
        refine wq_s 74 d222_73 rfl rfl (Nat.le_of_ble_eq_true rfl) rfl rfl ?_
        refine fin (lx_area (lx_gi t M (p + 1)) + rx_sz (lx_gi t M (p + 2))) (by omega) rfl _ _ ?_ _ _ _ _
        simp only [i_lt, i_le, i_eq, ne_eq, Int32.reduceToInt, b2_0, b2_1, decide_eq_true_eq, decide_eq_false_iff_not, Bool.not_eq_true, Bool.not_eq_false, e1, e2] at *
        first
          | (rw [show lx_area (lx_gi t M (p + 1)) = 0 by omega, show rx_sz (lx_gi t M (p + 2)) = 0 by omega]; rfl)
          | (rw [show lx_area (lx_gi t M (p + 1)) = 0 by omega, show rx_sz (lx_gi t M (p + 2)) = 3 by omega]; rfl)
          | (rw [show lx_area (lx_gi t M (p + 1)) = 0 by omega, show rx_sz (lx_gi t M (p + 2)) = 9 by omega]; rfl)
          | (rw [show lx_area (lx_gi t M (p + 1)) = 1 by omega, show rx_sz (lx_gi t M (p + 2)) = 0 by omega]; rfl)
          | (rw [show lx_area (lx_gi t M (p + 1)) = 1 by omega, show rx_sz (lx_gi t M (p + 2)) = 3 by omega]; rfl)
          | (rw [show lx_area (lx_gi t M (p + 1)) = 1 by omega, show rx_sz (lx_gi t M (p + 2)) = 9 by omega]; rfl)
          | (rw [show lx_area (lx_gi t M (p + 1)) = 2 by omega, show rx_sz (lx_gi t M (p + 2)) = 0 by omega]; rfl)
          | (rw [show lx_area (lx_gi t M (p + 1)) = 2 by omega, show rx_sz (lx_gi t M (p + 2)) = 3 by omega]; rfl)
          | (rw [show lx_area (lx_gi t M (p + 1)) = 2 by omega, show rx_sz (lx_gi t M (p + 2)) = 9 by omega]; rfl)
          | (rw [show lx_area (lx_gi t M (p + 1)) = 9 by omega, show rx_sz (lx_gi t M (p + 2)) = 0 by omega]; rfl)
          | (rw [show lx_area (lx_gi t M (p + 1)) = 9 by omega, show rx_sz (lx_gi t M (p + 2)) = 3 by omega]; rfl)
          | (rw [show lx_area (lx_gi t M (p + 1)) = 9 by omega, show rx_sz (lx_gi t M (p + 2)) = 9 by omega]; rfl)
  · -- pc 24
    refine wq_k 25 0 d222_24 (by decide) rfl ?_
    refine wq_g 50 d222_25 (by decide) ?_
    refine wq_l 51 d222_50 rfl rfl rfl rfl ?_
    refine wq_k 53 88 d222_51 (by decide) rfl ?_
    refine wq_b 60 56 d222_53 rfl (by decide) rfl (fun c53 => ?_) (fun c53 => ?_)
    · -- pc 60
      refine wq_l 61 d222_60 rfl rfl rfl rfl ?_
      refine wq_k 63 87 d222_61 (by decide) rfl ?_
      refine wq_b 70 66 d222_63 rfl (by decide) rfl (fun c63 => ?_) (fun c63 => ?_)
      · -- pc 70
        refine wq_k 72 9 d222_70 (by decide) rfl ?_
        refine wq_a 73 d222_72 rfl rfl ?_
        refine wq_s 74 d222_73 rfl rfl (Nat.le_of_ble_eq_true rfl) rfl rfl ?_
        refine fin (lx_area (lx_gi t M (p + 1)) + rx_sz (lx_gi t M (p + 2))) (by omega) rfl _ _ ?_ _ _ _ _
        simp only [i_lt, i_le, i_eq, ne_eq, Int32.reduceToInt, b2_0, b2_1, decide_eq_true_eq, decide_eq_false_iff_not, Bool.not_eq_true, Bool.not_eq_false, e1, e2] at *
        first
          | (rw [show lx_area (lx_gi t M (p + 1)) = 0 by omega, show rx_sz (lx_gi t M (p + 2)) = 0 by omega]; rfl)
          | (rw [show lx_area (lx_gi t M (p + 1)) = 0 by omega, show rx_sz (lx_gi t M (p + 2)) = 3 by omega]; rfl)
          | (rw [show lx_area (lx_gi t M (p + 1)) = 0 by omega, show rx_sz (lx_gi t M (p + 2)) = 9 by omega]; rfl)
          | (rw [show lx_area (lx_gi t M (p + 1)) = 1 by omega, show rx_sz (lx_gi t M (p + 2)) = 0 by omega]; rfl)
          | (rw [show lx_area (lx_gi t M (p + 1)) = 1 by omega, show rx_sz (lx_gi t M (p + 2)) = 3 by omega]; rfl)
          | (rw [show lx_area (lx_gi t M (p + 1)) = 1 by omega, show rx_sz (lx_gi t M (p + 2)) = 9 by omega]; rfl)
          | (rw [show lx_area (lx_gi t M (p + 1)) = 2 by omega, show rx_sz (lx_gi t M (p + 2)) = 0 by omega]; rfl)
          | (rw [show lx_area (lx_gi t M (p + 1)) = 2 by omega, show rx_sz (lx_gi t M (p + 2)) = 3 by omega]; rfl)
          | (rw [show lx_area (lx_gi t M (p + 1)) = 2 by omega, show rx_sz (lx_gi t M (p + 2)) = 9 by omega]; rfl)
          | (rw [show lx_area (lx_gi t M (p + 1)) = 9 by omega, show rx_sz (lx_gi t M (p + 2)) = 0 by omega]; rfl)
          | (rw [show lx_area (lx_gi t M (p + 1)) = 9 by omega, show rx_sz (lx_gi t M (p + 2)) = 3 by omega]; rfl)
          | (rw [show lx_area (lx_gi t M (p + 1)) = 9 by omega, show rx_sz (lx_gi t M (p + 2)) = 9 by omega]; rfl)
      · -- pc 66
        refine wq_k 67 3 d222_66 (by decide) rfl ?_
        refine wq_g 72 d222_67 (by decide) ?_
        refine wq_a 73 d222_72 rfl rfl ?_
        refine wq_s 74 d222_73 rfl rfl (Nat.le_of_ble_eq_true rfl) rfl rfl ?_
        refine fin (lx_area (lx_gi t M (p + 1)) + rx_sz (lx_gi t M (p + 2))) (by omega) rfl _ _ ?_ _ _ _ _
        simp only [i_lt, i_le, i_eq, ne_eq, Int32.reduceToInt, b2_0, b2_1, decide_eq_true_eq, decide_eq_false_iff_not, Bool.not_eq_true, Bool.not_eq_false, e1, e2] at *
        first
          | (rw [show lx_area (lx_gi t M (p + 1)) = 0 by omega, show rx_sz (lx_gi t M (p + 2)) = 0 by omega]; rfl)
          | (rw [show lx_area (lx_gi t M (p + 1)) = 0 by omega, show rx_sz (lx_gi t M (p + 2)) = 3 by omega]; rfl)
          | (rw [show lx_area (lx_gi t M (p + 1)) = 0 by omega, show rx_sz (lx_gi t M (p + 2)) = 9 by omega]; rfl)
          | (rw [show lx_area (lx_gi t M (p + 1)) = 1 by omega, show rx_sz (lx_gi t M (p + 2)) = 0 by omega]; rfl)
          | (rw [show lx_area (lx_gi t M (p + 1)) = 1 by omega, show rx_sz (lx_gi t M (p + 2)) = 3 by omega]; rfl)
          | (rw [show lx_area (lx_gi t M (p + 1)) = 1 by omega, show rx_sz (lx_gi t M (p + 2)) = 9 by omega]; rfl)
          | (rw [show lx_area (lx_gi t M (p + 1)) = 2 by omega, show rx_sz (lx_gi t M (p + 2)) = 0 by omega]; rfl)
          | (rw [show lx_area (lx_gi t M (p + 1)) = 2 by omega, show rx_sz (lx_gi t M (p + 2)) = 3 by omega]; rfl)
          | (rw [show lx_area (lx_gi t M (p + 1)) = 2 by omega, show rx_sz (lx_gi t M (p + 2)) = 9 by omega]; rfl)
          | (rw [show lx_area (lx_gi t M (p + 1)) = 9 by omega, show rx_sz (lx_gi t M (p + 2)) = 0 by omega]; rfl)
          | (rw [show lx_area (lx_gi t M (p + 1)) = 9 by omega, show rx_sz (lx_gi t M (p + 2)) = 3 by omega]; rfl)
          | (rw [show lx_area (lx_gi t M (p + 1)) = 9 by omega, show rx_sz (lx_gi t M (p + 2)) = 9 by omega]; rfl)
    · -- pc 56
      refine wq_k 57 0 d222_56 (by decide) rfl ?_
      refine wq_g 72 d222_57 (by decide) ?_
      refine wq_a 73 d222_72 rfl rfl ?_
      refine wq_s 74 d222_73 rfl rfl (Nat.le_of_ble_eq_true rfl) rfl rfl ?_
      refine fin (lx_area (lx_gi t M (p + 1)) + rx_sz (lx_gi t M (p + 2))) (by omega) rfl _ _ ?_ _ _ _ _
      simp only [i_lt, i_le, i_eq, ne_eq, Int32.reduceToInt, b2_0, b2_1, decide_eq_true_eq, decide_eq_false_iff_not, Bool.not_eq_true, Bool.not_eq_false, e1, e2] at *
      first
        | (rw [show lx_area (lx_gi t M (p + 1)) = 0 by omega, show rx_sz (lx_gi t M (p + 2)) = 0 by omega]; rfl)
        | (rw [show lx_area (lx_gi t M (p + 1)) = 0 by omega, show rx_sz (lx_gi t M (p + 2)) = 3 by omega]; rfl)
        | (rw [show lx_area (lx_gi t M (p + 1)) = 0 by omega, show rx_sz (lx_gi t M (p + 2)) = 9 by omega]; rfl)
        | (rw [show lx_area (lx_gi t M (p + 1)) = 1 by omega, show rx_sz (lx_gi t M (p + 2)) = 0 by omega]; rfl)
        | (rw [show lx_area (lx_gi t M (p + 1)) = 1 by omega, show rx_sz (lx_gi t M (p + 2)) = 3 by omega]; rfl)
        | (rw [show lx_area (lx_gi t M (p + 1)) = 1 by omega, show rx_sz (lx_gi t M (p + 2)) = 9 by omega]; rfl)
        | (rw [show lx_area (lx_gi t M (p + 1)) = 2 by omega, show rx_sz (lx_gi t M (p + 2)) = 0 by omega]; rfl)
        | (rw [show lx_area (lx_gi t M (p + 1)) = 2 by omega, show rx_sz (lx_gi t M (p + 2)) = 3 by omega]; rfl)
        | (rw [show lx_area (lx_gi t M (p + 1)) = 2 by omega, show rx_sz (lx_gi t M (p + 2)) = 9 by omega]; rfl)
        | (rw [show lx_area (lx_gi t M (p + 1)) = 9 by omega, show rx_sz (lx_gi t M (p + 2)) = 0 by omega]; rfl)
        | (rw [show lx_area (lx_gi t M (p + 1)) = 9 by omega, show rx_sz (lx_gi t M (p + 2)) = 3 by omega]; rfl)
        | (rw [show lx_area (lx_gi t M (p + 1)) = 9 by omega, show rx_sz (lx_gi t M (p + 2)) = 9 by omega]; rfl)
