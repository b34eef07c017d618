/-! the statements' loop -/
def xs_W (d : Nat) (Q : Option Value → pm_S → Prop) (body ek : Nat) (σ : pm_S) : Prop := ∀ a3 a4 : Value, pm_WP pm_Y0 (pm_call pm_Y0 (d + 17)) 10 prog_14_method_69_code none Q 5 [.ref 10, .int (nI body), .int (rx_c ek), a3, a4] [] σ
def xs_ok (ek : Nat) : Prop := ek = 1 ∨ ek = 3 ∨ ek = 5
theorem xs_te {t : Nat → Nat} {M n : Nat} {σ : pm_S} {c : pg_C} {h : rp_H} {s ek : Nat} (hN : rp_n t M n) (he : xs_ok ek) (hS : rp_S t M n σ c h s) (z : σ.1 10 6 = 0) : (σ.1 10 3 = rx_c ek ↔ pg_is (pt_T t M n) ek c = true) := by
  obtain ⟨k1, k2, k3⟩ := rp_k6 hN hS z
  have htk := rp_tk hS z
  constructor
  · intro q
    rw [htk] at q
    have e1 : ek < 69 := by unfold xs_ok at he; omega
    rcases rx_ci _ k1 _ e1 q with y | y | y | y | y
    · unfold pg_is; rw [y]; exact beq_self_eq_true _
    · exact absurd y k2
    · exact absurd y k3
    · unfold xs_ok at he; omega
    · unfold xs_ok at he; omega
  · intro q
    rw [htk, pg_isk q]
theorem xs_nb {T : pg_T} {c : pg_C} {ek : Nat} (he : xs_ok ek) (h : pg_any T xs_bg c = true) : ¬ pg_is T ek c = true := fun q => by
  unfold pg_any at h
  rw [pg_isk q] at h
  rcases he with e | e | e <;> rw [e] at h <;> exact absurd h (by decide)
theorem xs240L {d : Nat} {Q : Option Value → pm_S → Prop} {t : Nat → Nat} {M n body : Nat} {σ : pm_S} {c : pg_C} {h : rp_H} {s k b ek : Nat} {B : pg_P} (hN : rp_n t M n) (he : xs_ok ek) (L : xs_L t M n body σ c h s k b) (hbg : pg_any (pt_T t M n) xs_bg c = true)
  (AA : pg_any (pt_T t M n) [57, 41, 28, 29] c = true → ∀ σ' h', rp_S t M n σ' (pg_stmt (pt_T t M n) B c).1 h' (s + 8) → rp_E t M n σ h σ' h' b (pg_stmt (pt_T t M n) B c).2 → xs_W d Q body ek σ')
  (A1 : pg_is (pt_T t M n) 16 c = true → ∀ σa y σ2 h2 b2, rp_M σ h.1 σa (nI 15) y 0 → (σ2.1 10 6 = 0 → y = nI (pg_pl (pt_T t M n) c)) → xs_ob t M n σa (rp_in h b) h.1 h.1 (pg_E (pt_T t M n) (pg_opn c)).2 1 k σ2 h2 (pg_exp (pt_T t M n) 17 (pg_E (pt_T t M n) (pg_opn c)).1) b2 → rp_S t M n σ2 (pg_exp (pt_T t M n) 17 (pg_E (pt_T t M n) (pg_opn c)).1) h2 (s + 8) → xs_W d Q body ek σ2)
  (A6 : pg_is (pt_T t M n) 21 c = true → ∀ σa y σ1 h1, rp_M σ h.1 σa (nI 16) y 0 → (σ1.1 10 6 = 0 → y = nI (pg_pl (pt_T t M n) c)) → rp_Ew t M n σa (rp_in h b) σ1 h1 h.1 (pg_E (pt_T t M n) (pg_opn c)).2 → xs_N σ k σ1 → rp_S t M n (xs_ps σ1 k 3 (nI h.1) (-1)) (pg_exp (pt_T t M n) 15 (pg_E (pt_T t M n) (pg_opn c)).1) h1 (s + 8) → xs_W d Q body ek (xs_ps σ1 k 3 (nI h.1) (-1)))
  (A8 : pg_is (pt_T t M n) 23 c = true → ∀ σa y z σ2 h2 b2, rp_M σ h.1 σa (nI 19) y z → (σ2.1 10 6 = 0 → y = nI (pg_pl (pt_T t M n) c) ∧ rp_V t M n 19 z (pg_v (pt_T t M n) (pg_opn c))) → xs_ob t M n σa (rp_in h b) h.1 h.1 (xs_fh (pt_T t M n) c).2 6 k σ2 h2 (xs_fh (pt_T t M n) c).1 b2 → rp_S t M n σ2 (xs_fh (pt_T t M n) c).1 h2 (s + 8) → xs_W d Q body ek σ2) : xs_W d Q body ek σ := by
  intro a3 a4
  obtain ⟨hs, hS, z, ⟨h34, htop⟩, hb, hko⟩ := id L
  have hl := rp_lv hS z
  have h60 := (hS.1.2.2.1 hl).2.2.2.2.2.2.2
  have hne : ¬ σ.1 10 3 = rx_c ek := fun q => xs_nb he hbg ((xs_te hN he hS z).mp q)
  rcases htop with ⟨k0, b0⟩ | ⟨j, w, kj, h61, w6, w3, h63⟩
  · subst k0
    subst b0
    have mid : ∀ a4 : Value, pm_WP pm_Y0 (pm_call pm_Y0 (d + 17)) 10 prog_14_method_69_code none Q 97 [.ref 10, .int (nI b), .int (rx_c ek), .int 1, a4] [] σ := by
      intro a4
      refine wq_l 98 d240_97 rfl rfl rfl rfl ?_
      refine wq_gi (ci := 10) (j := 34) 101 d240_98 rfl rfl rfl rfl ?_
      rw [h34]
      refine wq_b 119 104 d240_101 rfl (by decide) rfl (fun c101 => ?_) (fun c101 => absurd (by decide) c101)
      refine wq_k 120 1 d240_119 (by decide) rfl ?_
      refine wq_g 124 d240_120 (by decide) ?_
      refine wq_s 126 d240_124 rfl rfl (Nat.le_of_ble_eq_true rfl) rfl rfl ?_
      refine wq_l 127 d240_126 rfl rfl rfl rfl ?_
      refine wq_b 164 130 d240_127 rfl (by decide) rfl (fun c127 => absurd c127 (by decide)) (fun c127 => ?_)
      refine wq_l 132 d240_130 rfl rfl rfl rfl ?_
      refine wq_b 164 135 d240_132 rfl (by decide) rfl (fun c132 => absurd c132 (by decide)) (fun c132 => ?_)
      refine wq_l 136 d240_135 rfl rfl rfl rfl ?_
      refine wq_l 137 d240_136 rfl rfl rfl rfl ?_
      refine wq_gi (ci := 10) (j := 34) 140 d240_137 rfl rfl rfl rfl ?_
      rw [h34]
      refine wq_b 147 143 d240_140 rfl (by decide) rfl (fun c140 => absurd c140 (by decide)) (fun c140 => ?_)
      refine wq_l 144 d240_143 rfl rfl rfl rfl ?_
      refine wq_g 158 d240_144 (by decide) ?_
      refine wq_v 161 [_] d240_158 rfl rfl m241 rfl rfl (Nat.le_of_ble_eq_true rfl) rfl (xs241 (B := B) hN L hbg ?_ ?_ ?_ ?_)
      · intro c1 c2 c3 c4 c5
        refine wq_g 182 d240_161 (by decide) ?_
        refine wq_g 5 d240_182 (by decide) ?_
        exact AA c1 c2 c3 c4 c5 _ _
      · intro c1 c2 c3 c4 c5 c6 c7 c8 c9 c10
        refine wq_g 182 d240_161 (by decide) ?_
        refine wq_g 5 d240_182 (by decide) ?_
        exact A1 c1 c2 c3 c4 c5 c6 c7 c8 c9 c10 _ _
      · intro c1 c2 c3 c4 c5 c6 c7 c8 c9 c10
        refine wq_g 182 d240_161 (by decide) ?_
        refine wq_g 5 d240_182 (by decide) ?_
        exact A6 c1 c2 c3 c4 c5 c6 c7 c8 c9 c10 _ _
      · intro c1 c2 c3 c4 c5 c6 c7 c8 c9 c10 c11
        refine wq_g 182 d240_161 (by decide) ?_
        refine wq_g 5 d240_182 (by decide) ?_
        exact A8 c1 c2 c3 c4 c5 c6 c7 c8 c9 c10 c11 _ _
    refine wq_l 6 d240_5 rfl rfl rfl rfl ?_
    refine wq_gi (ci := 10) (j := 6) 9 d240_6 rfl rfl rfl rfl ?_
    refine wq_b 185 12 d240_9 rfl (by decide) rfl (fun c9 => absurd c9 (fun y => y z)) (fun c9 => ?_)
    refine wq_l 13 d240_12 rfl rfl rfl rfl ?_
    refine wq_gi (ci := 10) (j := 34) 16 d240_13 rfl rfl rfl rfl ?_
    rw [h34]
    refine wq_b 27 19 d240_16 rfl (by decide) rfl (fun c16 => absurd c16 (by decide)) (fun c16 => ?_)
    refine wq_l 20 d240_19 rfl rfl rfl rfl ?_
    refine wq_gi (ci := 10) (j := 3) 23 d240_20 rfl rfl rfl rfl ?_
    refine wq_l 24 d240_23 rfl rfl rfl rfl ?_
    refine wq_b 185 27 d240_24 rfl (by decide) rfl (fun c24 => absurd c24 (hne)) (fun c24 => ?_)
    refine wq_l 28 d240_27 rfl rfl rfl rfl ?_
    refine wq_k 30 59 d240_28 (by decide) rfl ?_
    refine wq_v 33 [_] d240_30 rfl rfl m238 rfl rfl (Nat.le_of_ble_eq_true rfl) rfl (rp_sg (k := 57) hN (by decide) (by decide) hS ?_)
    refine wq_b 91 36 d240_33 rfl (by decide) rfl (fun c33 => ?_) (fun c33 => ?_)
    · -- pc 91
      have f33 := b2n c33
      refine wq_k 92 1 d240_91 (by decide) rfl ?_
      refine wq_g 96 d240_92 (by decide) ?_
      refine wq_s 97 d240_96 rfl rfl (Nat.le_of_ble_eq_true rfl) rfl rfl ?_
      exact mid _
    · -- pc 36
      have f33 := b2y c33
      refine wq_l 37 d240_36 rfl rfl rfl rfl ?_
      refine wq_k 38 1 d240_37 (by decide) rfl ?_
      refine wq_v 41 [_] d240_38 rfl rfl m224 rfl rfl (Nat.le_of_ble_eq_true rfl) rfl (rp_is (k := 41) hN (by decide) (by decide) hS ?_)
      refine wq_b 91 44 d240_41 rfl (by decide) rfl (fun c41 => ?_) (fun c41 => ?_)
      · -- pc 91
        have f41 := b2n c41
        refine wq_k 92 1 d240_91 (by decide) rfl ?_
        refine wq_g 96 d240_92 (by decide) ?_
        refine wq_s 97 d240_96 rfl rfl (Nat.le_of_ble_eq_true rfl) rfl rfl ?_
        exact mid _
      · -- pc 44
        have f41 := b2y c41
        refine wq_l 45 d240_44 rfl rfl rfl rfl ?_
        refine wq_k 47 116 d240_45 (by decide) rfl ?_
        refine wq_v 50 [_] d240_47 rfl rfl m224 rfl rfl (Nat.le_of_ble_eq_true rfl) rfl (rp_is (k := 16) hN (by decide) (by decide) hS ?_)
        refine wq_b 91 53 d240_50 rfl (by decide) rfl (fun c50 => ?_) (fun c50 => ?_)
        · -- pc 91
          have f50 := b2n c50
          refine wq_k 92 1 d240_91 (by decide) rfl ?_
          refine wq_g 96 d240_92 (by decide) ?_
          refine wq_s 97 d240_96 rfl rfl (Nat.le_of_ble_eq_true rfl) rfl rfl ?_
          exact mid _
        · -- pc 53
          have f50 := b2y c50
          refine wq_l 54 d240_53 rfl rfl rfl rfl ?_
          refine wq_k 56 121 d240_54 (by decide) rfl ?_
          refine wq_v 59 [_] d240_56 rfl rfl m224 rfl rfl (Nat.le_of_ble_eq_true rfl) rfl (rp_is (k := 21) hN (by decide) (by decide) hS ?_)
          refine wq_b 91 62 d240_59 rfl (by decide) rfl (fun c59 => ?_) (fun c59 => ?_)
          · -- pc 91
            have f59 := b2n c59
            refine wq_k 92 1 d240_91 (by decide) rfl ?_
            refine wq_g 96 d240_92 (by decide) ?_
            refine wq_s 97 d240_96 rfl rfl (Nat.le_of_ble_eq_true rfl) rfl rfl ?_
            exact mid _
          · -- pc 62
            have f59 := b2y c59
            refine wq_l 63 d240_62 rfl rfl rfl rfl ?_
            refine wq_k 65 123 d240_63 (by decide) rfl ?_
            refine wq_v 68 [_] d240_65 rfl rfl m224 rfl rfl (Nat.le_of_ble_eq_true rfl) rfl (rp_is (k := 23) hN (by decide) (by decide) hS ?_)
            refine wq_b 91 71 d240_68 rfl (by decide) rfl (fun c68 => ?_) (fun c68 => ?_)
            · -- pc 91
              have f68 := b2n c68
              refine wq_k 92 1 d240_91 (by decide) rfl ?_
              refine wq_g 96 d240_92 (by decide) ?_
              refine wq_s 97 d240_96 rfl rfl (Nat.le_of_ble_eq_true rfl) rfl rfl ?_
              exact mid _
            · -- pc 71
              have f68 := b2y c68
              refine wq_l 72 d240_71 rfl rfl rfl rfl ?_
              refine wq_k 75 128 d240_72 (by decide) rfl ?_
              refine wq_v 78 [_] d240_75 rfl rfl m224 rfl rfl (Nat.le_of_ble_eq_true rfl) rfl (rp_is (k := 28) hN (by decide) (by decide) hS ?_)
              refine wq_b 91 81 d240_78 rfl (by decide) rfl (fun c78 => ?_) (fun c78 => ?_)
              · -- pc 91
                have f78 := b2n c78
                refine wq_k 92 1 d240_91 (by decide) rfl ?_
                refine wq_g 96 d240_92 (by decide) ?_
                refine wq_s 97 d240_96 rfl rfl (Nat.le_of_ble_eq_true rfl) rfl rfl ?_
                exact mid _
              · -- pc 81
                have f78 := b2y c78
                refine wq_l 82 d240_81 rfl rfl rfl rfl ?_
                refine wq_k 85 129 d240_82 (by decide) rfl ?_
                refine wq_v 88 [_] d240_85 rfl rfl m224 rfl rfl (Nat.le_of_ble_eq_true rfl) rfl (rp_is (k := 29) hN (by decide) (by decide) hS ?_)
                refine wq_b 95 91 d240_88 rfl (by decide) rfl (fun c88 => ?_) (fun c88 => ?_)
                · -- pc 95
                  have f88 := b2z c88
                  exact absurd (show pg_any (pt_T t M n) xs_bg c = false by simp only [pg_any_c, pg_any_n, f33, f41, f50, f59, f68, f78, f88, Bool.or_false]) (by rw [hbg]; decide)
                · -- pc 91
                  have f88 := b2n c88
                  refine wq_k 92 1 d240_91 (by decide) rfl ?_
                  refine wq_g 96 d240_92 (by decide) ?_
                  refine wq_s 97 d240_96 rfl rfl (Nat.le_of_ble_eq_true rfl) rfl rfl ?_
                  exact mid _
  · subst kj
    have ej := nI_toInt (n := j) (by omega)
    have ej1 := nI_toInt (n := j + 1) (by omega)
    have cj := nI_clamp (n := j) (by omega)
    have ew := nI_toInt (n := w) (by omega)
    have mid : ∀ a4 : Value, pm_WP pm_Y0 (pm_call pm_Y0 (d + 17)) 10 prog_14_method_69_code none Q 97 [.ref 10, .int (nI body), .int (rx_c ek), .int 1, a4] [] σ := by
      intro a4
      refine wq_l 98 d240_97 rfl rfl rfl rfl ?_
      refine wq_gi (ci := 10) (j := 34) 101 d240_98 rfl rfl rfl rfl ?_
      rw [h34]
      refine wq_b 119 104 d240_101 rfl (by decide) rfl (fun c101 => absurd c101 (by simp only [i_lt, i_le, i_eq, ne_eq, Int32.reduceToInt, b2_0, b2_1, decide_eq_true_eq, decide_eq_false_iff_not, Bool.not_eq_true, Bool.not_eq_false, ej1]; omega)) (fun c101 => ?_)
      refine wq_l 105 d240_104 rfl rfl rfl rfl ?_
      refine wq_gr (ci := 10) (j := 31) (q := 61) 108 d240_105 rfl rfl rfl rfl ?_
      refine wq_l 109 d240_108 rfl rfl rfl rfl ?_
      refine wq_gi (ci := 10) (j := 34) 112 d240_109 rfl rfl rfl rfl ?_
      rw [h34]
      refine wq_k 113 1 d240_112 (by decide) rfl ?_
      refine wq_a 114 d240_113 rfl rfl ?_
      rw [nI_pred]
      refine wq_al 115 d240_114 rfl rfl rfl (vp_in_iff.mpr (by simp only [i_lt, i_le, i_eq, ne_eq, Int32.reduceToInt, b2_0, b2_1, decide_eq_true_eq, decide_eq_false_iff_not, Bool.not_eq_true, Bool.not_eq_false, ej] at * <;> omega)) ?_
      rw [cj, h61]
      refine wq_k 116 3 d240_115 (by decide) rfl ?_
      refine wq_b 123 119 d240_116 rfl (by decide) rfl (fun c116 => absurd c116 (by simp only [i_lt, i_le, i_eq, ne_eq, Int32.reduceToInt, b2_0, b2_1, decide_eq_true_eq, decide_eq_false_iff_not, Bool.not_eq_true, Bool.not_eq_false, ew]; omega)) (fun c116 => ?_)
      refine wq_k 120 1 d240_119 (by decide) rfl ?_
      refine wq_g 124 d240_120 (by decide) ?_
      refine wq_s 126 d240_124 rfl rfl (Nat.le_of_ble_eq_true rfl) rfl rfl ?_
      refine wq_l 127 d240_126 rfl rfl rfl rfl ?_
      refine wq_b 164 130 d240_127 rfl (by decide) rfl (fun c127 => absurd c127 (by decide)) (fun c127 => ?_)
      refine wq_l 132 d240_130 rfl rfl rfl rfl ?_
      refine wq_b 164 135 d240_132 rfl (by decide) rfl (fun c132 => absurd c132 (by decide)) (fun c132 => ?_)
      refine wq_l 136 d240_135 rfl rfl rfl rfl ?_
      refine wq_l 137 d240_136 rfl rfl rfl rfl ?_
      refine wq_gi (ci := 10) (j := 34) 140 d240_137 rfl rfl rfl rfl ?_
      rw [h34]
      refine wq_b 147 143 d240_140 rfl (by decide) rfl (fun c140 => ?_) (fun c140 => absurd (by simp only [i_lt, i_le, i_eq, ne_eq, Int32.reduceToInt, b2_0, b2_1, decide_eq_true_eq, decide_eq_false_iff_not, Bool.not_eq_true, Bool.not_eq_false, ej1]; omega) c140)
      refine wq_l 148 d240_147 rfl rfl rfl rfl ?_
      refine wq_gr (ci := 10) (j := 33) (q := 63) 151 d240_148 rfl rfl rfl rfl ?_
      refine wq_l 152 d240_151 rfl rfl rfl rfl ?_
      refine wq_gi (ci := 10) (j := 34) 155 d240_152 rfl rfl rfl rfl ?_
      rw [h34]
      refine wq_k 156 1 d240_155 (by decide) rfl ?_
      refine wq_a 157 d240_156 rfl rfl ?_
      rw [nI_pred]
      refine wq_al 158 d240_157 rfl rfl rfl (vp_in_iff.mpr (by simp only [i_lt, i_le, i_eq, ne_eq, Int32.reduceToInt, b2_0, b2_1, decide_eq_true_eq, decide_eq_false_iff_not, Bool.not_eq_true, Bool.not_eq_false, ej] at * <;> omega)) ?_
      rw [cj, h63]
      refine wq_v 161 [_] d240_158 rfl rfl m241 rfl rfl (Nat.le_of_ble_eq_true rfl) rfl (xs241 (B := B) hN L hbg ?_ ?_ ?_ ?_)
      · intro c1 c2 c3 c4 c5
        refine wq_g 182 d240_161 (by decide) ?_
        refine wq_g 5 d240_182 (by decide) ?_
        exact AA c1 c2 c3 c4 c5 _ _
      · intro c1 c2 c3 c4 c5 c6 c7 c8 c9 c10
        refine wq_g 182 d240_161 (by decide) ?_
        refine wq_g 5 d240_182 (by decide) ?_
        exact A1 c1 c2 c3 c4 c5 c6 c7 c8 c9 c10 _ _
      · intro c1 c2 c3 c4 c5 c6 c7 c8 c9 c10
        refine wq_g 182 d240_161 (by decide) ?_
        refine wq_g 5 d240_182 (by decide) ?_
        exact A6 c1 c2 c3 c4 c5 c6 c7 c8 c9 c10 _ _
      · intro c1 c2 c3 c4 c5 c6 c7 c8 c9 c10 c11
        refine wq_g 182 d240_161 (by decide) ?_
        refine wq_g 5 d240_182 (by decide) ?_
        exact A8 c1 c2 c3 c4 c5 c6 c7 c8 c9 c10 c11 _ _
    refine wq_l 6 d240_5 rfl rfl rfl rfl ?_
    refine wq_gi (ci := 10) (j := 6) 9 d240_6 rfl rfl rfl rfl ?_
    refine wq_b 185 12 d240_9 rfl (by decide) rfl (fun c9 => absurd c9 (fun y => y z)) (fun c9 => ?_)
    refine wq_l 13 d240_12 rfl rfl rfl rfl ?_
    refine wq_gi (ci := 10) (j := 34) 16 d240_13 rfl rfl rfl rfl ?_
    rw [h34]
    refine wq_b 27 19 d240_16 rfl (by decide) rfl (fun c16 => ?_) (fun c16 => absurd (by simp only [i_lt, i_le, i_eq, ne_eq, Int32.reduceToInt, b2_0, b2_1, decide_eq_true_eq, decide_eq_false_iff_not, Bool.not_eq_true, Bool.not_eq_false, ej1]; omega) c16)
    refine wq_l 28 d240_27 rfl rfl rfl rfl ?_
    refine wq_k 30 59 d240_28 (by decide) rfl ?_
    refine wq_v 33 [_] d240_30 rfl rfl m238 rfl rfl (Nat.le_of_ble_eq_true rfl) rfl (rp_sg (k := 57) hN (by decide) (by decide) hS ?_)
    refine wq_b 91 36 d240_33 rfl (by decide) rfl (fun c33 => ?_) (fun c33 => ?_)
    · -- pc 91
      have f33 := b2n c33
      refine wq_k 92 1 d240_91 (by decide) rfl ?_
      refine wq_g 96 d240_92 (by decide) ?_
      refine wq_s 97 d240_96 rfl rfl (Nat.le_of_ble_eq_true rfl) rfl rfl ?_
      exact mid _
    · -- pc 36
      have f33 := b2y c33
      refine wq_l 37 d240_36 rfl rfl rfl rfl ?_
      refine wq_k 38 1 d240_37 (by decide) rfl ?_
      refine wq_v 41 [_] d240_38 rfl rfl m224 rfl rfl (Nat.le_of_ble_eq_true rfl) rfl (rp_is (k := 41) hN (by decide) (by decide) hS ?_)
      refine wq_b 91 44 d240_41 rfl (by decide) rfl (fun c41 => ?_) (fun c41 => ?_)
      · -- pc 91
        have f41 := b2n c41
        refine wq_k 92 1 d240_91 (by decide) rfl ?_
        refine wq_g 96 d240_92 (by decide) ?_
        refine wq_s 97 d240_96 rfl rfl (Nat.le_of_ble_eq_true rfl) rfl rfl ?_
        exact mid _
      · -- pc 44
        have f41 := b2y c41
        refine wq_l 45 d240_44 rfl rfl rfl rfl ?_
        refine wq_k 47 116 d240_45 (by decide) rfl ?_
        refine wq_v 50 [_] d240_47 rfl rfl m224 rfl rfl (Nat.le_of_ble_eq_true rfl) rfl (rp_is (k := 16) hN (by decide) (by decide) hS ?_)
        refine wq_b 91 53 d240_50 rfl (by decide) rfl (fun c50 => ?_) (fun c50 => ?_)
        · -- pc 91
          have f50 := b2n c50
          refine wq_k 92 1 d240_91 (by decide) rfl ?_
          refine wq_g 96 d240_92 (by decide) ?_
          refine wq_s 97 d240_96 rfl rfl (Nat.le_of_ble_eq_true rfl) rfl rfl ?_
          exact mid _
        · -- pc 53
          have f50 := b2y c50
          refine wq_l 54 d240_53 rfl rfl rfl rfl ?_
          refine wq_k 56 121 d240_54 (by decide) rfl ?_
          refine wq_v 59 [_] d240_56 rfl rfl m224 rfl rfl (Nat.le_of_ble_eq_true rfl) rfl (rp_is (k := 21) hN (by decide) (by decide) hS ?_)
          refine wq_b 91 62 d240_59 rfl (by decide) rfl (fun c59 => ?_) (fun c59 => ?_)
          · -- pc 91
            have f59 := b2n c59
            refine wq_k 92 1 d240_91 (by decide) rfl ?_
            refine wq_g 96 d240_92 (by decide) ?_
            refine wq_s 97 d240_96 rfl rfl (Nat.le_of_ble_eq_true rfl) rfl rfl ?_
            exact mid _
          · -- pc 62
            have f59 := b2y c59
            refine wq_l 63 d240_62 rfl rfl rfl rfl ?_
            refine wq_k 65 123 d240_63 (by decide) rfl ?_
            refine wq_v 68 [_] d240_65 rfl rfl m224 rfl rfl (Nat.le_of_ble_eq_true rfl) rfl (rp_is (k := 23) hN (by decide) (by decide) hS ?_)
            refine wq_b 91 71 d240_68 rfl (by decide) rfl (fun c68 => ?_) (fun c68 => ?_)
            · -- pc 91
              have f68 := b2n c68
              refine wq_k 92 1 d240_91 (by decide) rfl ?_
              refine wq_g 96 d240_92 (by decide) ?_
              refine wq_s 97 d240_96 rfl rfl (Nat.le_of_ble_eq_true rfl) rfl rfl ?_
              exact mid _
            · -- pc 71
              have f68 := b2y c68
              refine wq_l 72 d240_71 rfl rfl rfl rfl ?_
              refine wq_k 75 128 d240_72 (by decide) rfl ?_
              refine wq_v 78 [_] d240_75 rfl rfl m224 rfl rfl (Nat.le_of_ble_eq_true rfl) rfl (rp_is (k := 28) hN (by decide) (by decide) hS ?_)
              refine wq_b 91 81 d240_78 rfl (by decide) rfl (fun c78 => ?_) (fun c78 => ?_)
              · -- pc 91
                have f78 := b2n c78
                refine wq_k 92 1 d240_91 (by decide) rfl ?_
                refine wq_g 96 d240_92 (by decide) ?_
                refine wq_s 97 d240_96 rfl rfl (Nat.le_of_ble_eq_true rfl) rfl rfl ?_
                exact mid _
              · -- pc 81
                have f78 := b2y c78
                refine wq_l 82 d240_81 rfl rfl rfl rfl ?_
                refine wq_k 85 129 d240_82 (by decide) rfl ?_
                refine wq_v 88 [_] d240_85 rfl rfl m224 rfl rfl (Nat.le_of_ble_eq_true rfl) rfl (rp_is (k := 29) hN (by decide) (by decide) hS ?_)
                refine wq_b 95 91 d240_88 rfl (by decide) rfl (fun c88 => ?_) (fun c88 => ?_)
                · -- pc 95
                  have f88 := b2z c88
                  exact absurd (show pg_any (pt_T t M n) xs_bg c = false by simp only [pg_any_c, pg_any_n, f33, f41, f50, f59, f68, f78, f88, Bool.or_false]) (by rw [hbg]; decide)
                · -- pc 91
                  have f88 := b2n c88
                  refine wq_k 92 1 d240_91 (by decide) rfl ?_
                  refine wq_g 96 d240_92 (by decide) ?_
                  refine wq_s 97 d240_96 rfl rfl (Nat.le_of_ble_eq_true rfl) rfl rfl ?_
                  exact mid _
theorem xs240G {d : Nat} {Q : Option Value → pm_S → Prop} {t : Nat → Nat} {M n body : Nat} {σ : pm_S} {c : pg_C} {h : rp_H} {s k w nd ek : Nat} (hN : rp_n t M n) (G : xs_G t M n σ c h s k w nd)
  (A2 : w = 1 → pg_is (pt_T t M n) 18 c = true → ∀ σ2 h2 b2, xs_ob t M n σ h nd nd (pg_E (pt_T t M n) (pg_stp c)).2 1 k σ2 h2 (pg_exp (pt_T t M n) 17 (pg_E (pt_T t M n) (pg_stp c)).1) b2 → rp_S t M n σ2 (pg_exp (pt_T t M n) 17 (pg_E (pt_T t M n) (pg_stp c)).1) h2 (s + 8) → xs_W d Q body ek σ2)
  (A3 : (w = 1 ∨ w = 3 ∨ w = 4) → pg_is (pt_T t M n) 19 c = true → ∀ σ2 h2 b2, xs_ob t M n σ h nd nd [] (if w = 1 then 2 else 5) k σ2 h2 (pg_stp c) b2 → rp_S t M n σ2 (pg_stp c) h2 (s + 8) → xs_W d Q body ek σ2)
  (A4 : ∀ e, xs_ew w e → pg_is (pt_T t M n) e c = true → ∀ σ2, rp_S t M n σ2 (pg_exp (pt_T t M n) 57 (pg_dec (pg_exp (pt_T t M n) e c))) h (s + 8) → (∀ to, rp_Ew t M n σ h σ2 h to []) → xs_N σ k σ2 → σ2.1 10 34 = nI k → xs_W d Q body ek σ2)
  (A5 : ¬ (w = 1 ∧ pg_is (pt_T t M n) 18 c = true) → ¬ ((w = 1 ∨ w = 3 ∨ w = 4) ∧ pg_is (pt_T t M n) 19 c = true) → ¬ ((w = 3 ∨ w = 4) ∧ pg_any (pt_T t M n) [42, 61, 35, 36] c = true) → (∀ e, xs_ew w e → pg_is (pt_T t M n) e c = false) → ∀ σ2, rp_S t M n σ2 (pg_stop c) h (s + 8) → (∀ to, rp_E t M n σ h σ2 h to []) → xs_W d Q body ek σ2)
  (A7 : (w = 3 ∨ w = 4) → pg_any (pt_T t M n) [42, 61, 35, 36] c = true → ∀ σp σa y σ2 h2 b2, xs_q σ σp → xs_N σ k σp → rp_M σp h.1 σa (nI 17) y 0 → (σ2.1 10 6 = 0 → y = nI (pg_pl (pt_T t M n) c)) → xs_ob t M n σa (rp_in h nd) h.1 nd (pg_sep (pt_T t M n) (pg_range (pt_T t M n)) pg_M c).2 4 k σ2 h2 (pg_exp (pt_T t M n) 58 (pg_sep (pt_T t M n) (pg_range (pt_T t M n)) pg_M c).1) b2 → rp_S t M n σ2 (pg_exp (pt_T t M n) 58 (pg_sep (pt_T t M n) (pg_range (pt_T t M n)) pg_M c).1) h2 (s + 8) → xs_W d Q body ek σ2) : xs_W d Q body ek σ := by
  intro a3 a4
  obtain ⟨hs, hS, z, ⟨h34, h61, h62⟩, hnd, hko, hbg, w1, w6, hc1⟩ := id G
  have hl := rp_lv hS z
  have h60 := (hS.1.2.2.1 hl).2.2.2.2.2.2.2
  have ej := nI_toInt (n := k) (by omega)
  have ej1 := nI_toInt (n := k + 1) (by omega)
  have cj := nI_clamp (n := k) (by omega)
  have ew := nI_toInt (n := w) (by omega)
  have last : ∀ v u : Int32, pm_WP pm_Y0 (pm_call pm_Y0 (d + 17)) 10 prog_14_method_69_code none Q 164 [.ref 10, .int (nI body), .int (rx_c ek), .int v, .int u] [] σ := by
    intro v u
    refine wq_l 165 d240_164 rfl rfl rfl rfl ?_
    refine wq_gi (ci := 10) (j := 34) 168 d240_165 rfl rfl rfl rfl ?_
    rw [h34]
    refine wq_b 178 171 d240_168 rfl (by decide) rfl (fun c168 => absurd c168 (by simp only [i_lt, i_le, i_eq, ne_eq, Int32.reduceToInt, b2_0, b2_1, decide_eq_true_eq, decide_eq_false_iff_not, Bool.not_eq_true, Bool.not_eq_false, ej1]; omega)) (fun c168 => ?_)
    refine wq_l 172 d240_171 rfl rfl rfl rfl ?_
    refine wq_v 175 [] d240_172 rfl rfl m261 rfl rfl (Nat.le_of_ble_eq_true rfl) rfl (xs261 hN hc1 G ?_ ?_ ?_ ?_ ?_)
    · intro c0 c1 c2 c3 c4 c5 c6
      refine wq_g 182 d240_175 (by decide) ?_
      refine wq_g 5 d240_182 (by decide) ?_
      exact A2 c0 c1 c2 c3 c4 c5 c6 _ _
    · intro c0 c1 c2 c3 c4 c5 c6
      refine wq_g 182 d240_175 (by decide) ?_
      refine wq_g 5 d240_182 (by decide) ?_
      exact A3 c0 c1 c2 c3 c4 c5 c6 _ _
    · intro c0 c1 c2 c3 c4 c5 c6 c7
      refine wq_g 182 d240_175 (by decide) ?_
      refine wq_g 5 d240_182 (by decide) ?_
      exact A4 c0 c1 c2 c3 c4 c5 c6 c7 _ _
    · intro c0 c1 c2 c3 c4 c5 c6
      refine wq_g 182 d240_175 (by decide) ?_
      refine wq_g 5 d240_182 (by decide) ?_
      exact A5 c0 c1 c2 c3 c4 c5 c6 _ _
    · intro c0 c1 c2 c3 c4 c5 c6 c7 c8 c9 c10 c11 c12 c13
      refine wq_g 182 d240_175 (by decide) ?_
      refine wq_g 5 d240_182 (by decide) ?_
      exact A7 c0 c1 c2 c3 c4 c5 c6 c7 c8 c9 c10 c11 c12 c13 _ _
  have mid : ∀ (v : Int32) (a4 : Value), (v = 0 ∨ (v = 1 ∧ w = 3)) → pm_WP pm_Y0 (pm_call pm_Y0 (d + 17)) 10 prog_14_method_69_code none Q 97 [.ref 10, .int (nI body), .int (rx_c ek), .int v, a4] [] σ := by
    intro v a4 hv
    rcases hv with hv | ⟨hv, hw3⟩
    · subst hv
      refine wq_l 98 d240_97 rfl rfl rfl rfl ?_
      refine wq_gi (ci := 10) (j := 34) 101 d240_98 rfl rfl rfl rfl ?_
      rw [h34]
      refine wq_b 119 104 d240_101 rfl (by decide) rfl (fun c101 => absurd c101 (by simp only [i_lt, i_le, i_eq, ne_eq, Int32.reduceToInt, b2_0, b2_1, decide_eq_true_eq, decide_eq_false_iff_not, Bool.not_eq_true, Bool.not_eq_false, ej1]; omega)) (fun c101 => ?_)
      refine wq_l 105 d240_104 rfl rfl rfl rfl ?_
      refine wq_gr (ci := 10) (j := 31) (q := 61) 108 d240_105 rfl rfl rfl rfl ?_
      refine wq_l 109 d240_108 rfl rfl rfl rfl ?_
      refine wq_gi (ci := 10) (j := 34) 112 d240_109 rfl rfl rfl rfl ?_
      rw [h34]
      refine wq_k 113 1 d240_112 (by decide) rfl ?_
      refine wq_a 114 d240_113 rfl rfl ?_
      rw [nI_pred]
      refine wq_al 115 d240_114 rfl rfl rfl (vp_in_iff.mpr (by simp only [i_lt, i_le, i_eq, ne_eq, Int32.reduceToInt, b2_0, b2_1, decide_eq_true_eq, decide_eq_false_iff_not, Bool.not_eq_true, Bool.not_eq_false, ej] at * <;> omega)) ?_
      rw [cj, h61]
      refine wq_k 116 3 d240_115 (by decide) rfl ?_
      refine wq_b 123 119 d240_116 rfl (by decide) rfl (fun c116 => ?_) (fun c116 => ?_)
      · -- pc 123
        refine wq_k 124 0 d240_123 (by decide) rfl ?_
        refine wq_s 126 d240_124 rfl rfl (Nat.le_of_ble_eq_true rfl) rfl rfl ?_
        refine wq_l 127 d240_126 rfl rfl rfl rfl ?_
        refine wq_b 164 130 d240_127 rfl (by decide) rfl (fun c127 => ?_) (fun c127 => absurd (by decide) c127)
        exact last _ _
      · -- pc 119
        refine wq_k 120 1 d240_119 (by decide) rfl ?_
        refine wq_g 124 d240_120 (by decide) ?_
        refine wq_s 126 d240_124 rfl rfl (Nat.le_of_ble_eq_true rfl) rfl rfl ?_
        refine wq_l 127 d240_126 rfl rfl rfl rfl ?_
        refine wq_b 164 130 d240_127 rfl (by decide) rfl (fun c127 => ?_) (fun c127 => absurd (by decide) c127)
        exact last _ _
    · subst hv
      rw [hw3] at h61
      refine wq_l 98 d240_97 rfl rfl rfl rfl ?_
      refine wq_gi (ci := 10) (j := 34) 101 d240_98 rfl rfl rfl rfl ?_
      rw [h34]
      refine wq_b 119 104 d240_101 rfl (by decide) rfl (fun c101 => absurd c101 (by simp only [i_lt, i_le, i_eq, ne_eq, Int32.reduceToInt, b2_0, b2_1, decide_eq_true_eq, decide_eq_false_iff_not, Bool.not_eq_true, Bool.not_eq_false, ej1]; omega)) (fun c101 => ?_)
      refine wq_l 105 d240_104 rfl rfl rfl rfl ?_
      refine wq_gr (ci := 10) (j := 31) (q := 61) 108 d240_105 rfl rfl rfl rfl ?_
      refine wq_l 109 d240_108 rfl rfl rfl rfl ?_
      refine wq_gi (ci := 10) (j := 34) 112 d240_109 rfl rfl rfl rfl ?_
      rw [h34]
      refine wq_k 113 1 d240_112 (by decide) rfl ?_
      refine wq_a 114 d240_113 rfl rfl ?_
      rw [nI_pred]
      refine wq_al 115 d240_114 rfl rfl rfl (vp_in_iff.mpr (by simp only [i_lt, i_le, i_eq, ne_eq, Int32.reduceToInt, b2_0, b2_1, decide_eq_true_eq, decide_eq_false_iff_not, Bool.not_eq_true, Bool.not_eq_false, ej] at * <;> omega)) ?_
      rw [cj, h61]
      refine wq_k 116 3 d240_115 (by decide) rfl ?_
      refine wq_b 123 119 d240_116 rfl (by decide) rfl (fun c116 => ?_) (fun c116 => absurd (by decide) c116)
      refine wq_k 124 0 d240_123 (by decide) rfl ?_
      refine wq_s 126 d240_124 rfl rfl (Nat.le_of_ble_eq_true rfl) rfl rfl ?_
      refine wq_l 127 d240_126 rfl rfl rfl rfl ?_
      refine wq_b 164 130 d240_127 rfl (by decide) rfl (fun c127 => absurd c127 (by decide)) (fun c127 => ?_)
      refine wq_l 132 d240_130 rfl rfl rfl rfl ?_
      refine wq_b 164 135 d240_132 rfl (by decide) rfl (fun c132 => ?_) (fun c132 => absurd (by decide) c132)
      exact last _ _
  refine wq_l 6 d240_5 rfl rfl rfl rfl ?_
  refine wq_gi (ci := 10) (j := 6) 9 d240_6 rfl rfl rfl rfl ?_
  refine wq_b 185 12 d240_9 rfl (by decide) rfl (fun c9 => absurd c9 (fun y => y z)) (fun c9 => ?_)
  refine wq_l 13 d240_12 rfl rfl rfl rfl ?_
  refine wq_gi (ci := 10) (j := 34) 16 d240_13 rfl rfl rfl rfl ?_
  rw [h34]
  refine wq_b 27 19 d240_16 rfl (by decide) rfl (fun c16 => ?_) (fun c16 => absurd (by simp only [i_lt, i_le, i_eq, ne_eq, Int32.reduceToInt, b2_0, b2_1, decide_eq_true_eq, decide_eq_false_iff_not, Bool.not_eq_true, Bool.not_eq_false, ej1]; omega) c16)
  refine wq_l 28 d240_27 rfl rfl rfl rfl ?_
  refine wq_k 30 59 d240_28 (by decide) rfl ?_
  refine wq_v 33 [_] d240_30 rfl rfl m238 rfl rfl (Nat.le_of_ble_eq_true rfl) rfl (rp_sg (k := 57) hN (by decide) (by decide) hS ?_)
  refine wq_b 91 36 d240_33 rfl (by decide) rfl (fun c33 => ?_) (fun c33 => ?_)
  · -- pc 91
    have f33 := b2n c33
    have ha : pg_any (pt_T t M n) xs_bg c = true := by first | (simp only [pg_any_c, f33, Bool.true_or]; done) | (simp only [pg_any_c, f41, Bool.true_or, Bool.or_true]; done) | (simp only [pg_any_c, f50, Bool.true_or, Bool.or_true]; done) | (simp only [pg_any_c, f59, Bool.true_or, Bool.or_true]; done) | (simp only [pg_any_c, f68, Bool.true_or, Bool.or_true]; done) | (simp only [pg_any_c, f78, Bool.true_or, Bool.or_true]; done) | (simp only [pg_any_c, f88, Bool.true_or, Bool.or_true]; done)
    have hw3 : w = 3 := by
      rcases hbg with y | y
      · exact y
      · rw [ha] at y; cases y
    refine wq_k 92 1 d240_91 (by decide) rfl ?_
    refine wq_g 96 d240_92 (by decide) ?_
    refine wq_s 97 d240_96 rfl rfl (Nat.le_of_ble_eq_true rfl) rfl rfl ?_
    first | exact mid _ _ (Or.inr ⟨rfl, hw3⟩) | exact mid _ _ (Or.inl rfl)
  · -- pc 36
    have f33 := b2y c33
    refine wq_l 37 d240_36 rfl rfl rfl rfl ?_
    refine wq_k 38 1 d240_37 (by decide) rfl ?_
    refine wq_v 41 [_] d240_38 rfl rfl m224 rfl rfl (Nat.le_of_ble_eq_true rfl) rfl (rp_is (k := 41) hN (by decide) (by decide) hS ?_)
    refine wq_b 91 44 d240_41 rfl (by decide) rfl (fun c41 => ?_) (fun c41 => ?_)
    · -- pc 91
      have f41 := b2n c41
      have ha : pg_any (pt_T t M n) xs_bg c = true := by first | (simp only [pg_any_c, f33, Bool.true_or]; done) | (simp only [pg_any_c, f41, Bool.true_or, Bool.or_true]; done) | (simp only [pg_any_c, f50, Bool.true_or, Bool.or_true]; done) | (simp only [pg_any_c, f59, Bool.true_or, Bool.or_true]; done) | (simp only [pg_any_c, f68, Bool.true_or, Bool.or_true]; done) | (simp only [pg_any_c, f78, Bool.true_or, Bool.or_true]; done) | (simp only [pg_any_c, f88, Bool.true_or, Bool.or_true]; done)
      have hw3 : w = 3 := by
        rcases hbg with y | y
        · exact y
        · rw [ha] at y; cases y
      refine wq_k 92 1 d240_91 (by decide) rfl ?_
      refine wq_g 96 d240_92 (by decide) ?_
      refine wq_s 97 d240_96 rfl rfl (Nat.le_of_ble_eq_true rfl) rfl rfl ?_
      first | exact mid _ _ (Or.inr ⟨rfl, hw3⟩) | exact mid _ _ (Or.inl rfl)
    · -- pc 44
      have f41 := b2y c41
      refine wq_l 45 d240_44 rfl rfl rfl rfl ?_
      refine wq_k 47 116 d240_45 (by decide) rfl ?_
      refine wq_v 50 [_] d240_47 rfl rfl m224 rfl rfl (Nat.le_of_ble_eq_true rfl) rfl (rp_is (k := 16) hN (by decide) (by decide) hS ?_)
      refine wq_b 91 53 d240_50 rfl (by decide) rfl (fun c50 => ?_) (fun c50 => ?_)
      · -- pc 91
        have f50 := b2n c50
        have ha : pg_any (pt_T t M n) xs_bg c = true := by first | (simp only [pg_any_c, f33, Bool.true_or]; done) | (simp only [pg_any_c, f41, Bool.true_or, Bool.or_true]; done) | (simp only [pg_any_c, f50, Bool.true_or, Bool.or_true]; done) | (simp only [pg_any_c, f59, Bool.true_or, Bool.or_true]; done) | (simp only [pg_any_c, f68, Bool.true_or, Bool.or_true]; done) | (simp only [pg_any_c, f78, Bool.true_or, Bool.or_true]; done) | (simp only [pg_any_c, f88, Bool.true_or, Bool.or_true]; done)
        have hw3 : w = 3 := by
          rcases hbg with y | y
          · exact y
          · rw [ha] at y; cases y
        refine wq_k 92 1 d240_91 (by decide) rfl ?_
        refine wq_g 96 d240_92 (by decide) ?_
        refine wq_s 97 d240_96 rfl rfl (Nat.le_of_ble_eq_true rfl) rfl rfl ?_
        first | exact mid _ _ (Or.inr ⟨rfl, hw3⟩) | exact mid _ _ (Or.inl rfl)
      · -- pc 53
        have f50 := b2y c50
        refine wq_l 54 d240_53 rfl rfl rfl rfl ?_
        refine wq_k 56 121 d240_54 (by decide) rfl ?_
        refine wq_v 59 [_] d240_56 rfl rfl m224 rfl rfl (Nat.le_of_ble_eq_true rfl) rfl (rp_is (k := 21) hN (by decide) (by decide) hS ?_)
        refine wq_b 91 62 d240_59 rfl (by decide) rfl (fun c59 => ?_) (fun c59 => ?_)
        · -- pc 91
          have f59 := b2n c59
          have ha : pg_any (pt_T t M n) xs_bg c = true := by first | (simp only [pg_any_c, f33, Bool.true_or]; done) | (simp only [pg_any_c, f41, Bool.true_or, Bool.or_true]; done) | (simp only [pg_any_c, f50, Bool.true_or, Bool.or_true]; done) | (simp only [pg_any_c, f59, Bool.true_or, Bool.or_true]; done) | (simp only [pg_any_c, f68, Bool.true_or, Bool.or_true]; done) | (simp only [pg_any_c, f78, Bool.true_or, Bool.or_true]; done) | (simp only [pg_any_c, f88, Bool.true_or, Bool.or_true]; done)
          have hw3 : w = 3 := by
            rcases hbg with y | y
            · exact y
            · rw [ha] at y; cases y
          refine wq_k 92 1 d240_91 (by decide) rfl ?_
          refine wq_g 96 d240_92 (by decide) ?_
          refine wq_s 97 d240_96 rfl rfl (Nat.le_of_ble_eq_true rfl) rfl rfl ?_
          first | exact mid _ _ (Or.inr ⟨rfl, hw3⟩) | exact mid _ _ (Or.inl rfl)
        · -- pc 62
          have f59 := b2y c59
          refine wq_l 63 d240_62 rfl rfl rfl rfl ?_
          refine wq_k 65 123 d240_63 (by decide) rfl ?_
          refine wq_v 68 [_] d240_65 rfl rfl m224 rfl rfl (Nat.le_of_ble_eq_true rfl) rfl (rp_is (k := 23) hN (by decide) (by decide) hS ?_)
          refine wq_b 91 71 d240_68 rfl (by decide) rfl (fun c68 => ?_) (fun c68 => ?_)
          · -- pc 91
            have f68 := b2n c68
            have ha : pg_any (pt_T t M n) xs_bg c = true := by first | (simp only [pg_any_c, f33, Bool.true_or]; done) | (simp only [pg_any_c, f41, Bool.true_or, Bool.or_true]; done) | (simp only [pg_any_c, f50, Bool.true_or, Bool.or_true]; done) | (simp only [pg_any_c, f59, Bool.true_or, Bool.or_true]; done) | (simp only [pg_any_c, f68, Bool.true_or, Bool.or_true]; done) | (simp only [pg_any_c, f78, Bool.true_or, Bool.or_true]; done) | (simp only [pg_any_c, f88, Bool.true_or, Bool.or_true]; done)
            have hw3 : w = 3 := by
              rcases hbg with y | y
              · exact y
              · rw [ha] at y; cases y
            refine wq_k 92 1 d240_91 (by decide) rfl ?_
            refine wq_g 96 d240_92 (by decide) ?_
            refine wq_s 97 d240_96 rfl rfl (Nat.le_of_ble_eq_true rfl) rfl rfl ?_
            first | exact mid _ _ (Or.inr ⟨rfl, hw3⟩) | exact mid _ _ (Or.inl rfl)
          · -- pc 71
            have f68 := b2y c68
            refine wq_l 72 d240_71 rfl rfl rfl rfl ?_
            refine wq_k 75 128 d240_72 (by decide) rfl ?_
            refine wq_v 78 [_] d240_75 rfl rfl m224 rfl rfl (Nat.le_of_ble_eq_true rfl) rfl (rp_is (k := 28) hN (by decide) (by decide) hS ?_)
            refine wq_b 91 81 d240_78 rfl (by decide) rfl (fun c78 => ?_) (fun c78 => ?_)
            · -- pc 91
              have f78 := b2n c78
              have ha : pg_any (pt_T t M n) xs_bg c = true := by first | (simp only [pg_any_c, f33, Bool.true_or]; done) | (simp only [pg_any_c, f41, Bool.true_or, Bool.or_true]; done) | (simp only [pg_any_c, f50, Bool.true_or, Bool.or_true]; done) | (simp only [pg_any_c, f59, Bool.true_or, Bool.or_true]; done) | (simp only [pg_any_c, f68, Bool.true_or, Bool.or_true]; done) | (simp only [pg_any_c, f78, Bool.true_or, Bool.or_true]; done) | (simp only [pg_any_c, f88, Bool.true_or, Bool.or_true]; done)
              have hw3 : w = 3 := by
                rcases hbg with y | y
                · exact y
                · rw [ha] at y; cases y
              refine wq_k 92 1 d240_91 (by decide) rfl ?_
              refine wq_g 96 d240_92 (by decide) ?_
              refine wq_s 97 d240_96 rfl rfl (Nat.le_of_ble_eq_true rfl) rfl rfl ?_
              first | exact mid _ _ (Or.inr ⟨rfl, hw3⟩) | exact mid _ _ (Or.inl rfl)
            · -- pc 81
              have f78 := b2y c78
              refine wq_l 82 d240_81 rfl rfl rfl rfl ?_
              refine wq_k 85 129 d240_82 (by decide) rfl ?_
              refine wq_v 88 [_] d240_85 rfl rfl m224 rfl rfl (Nat.le_of_ble_eq_true rfl) rfl (rp_is (k := 29) hN (by decide) (by decide) hS ?_)
              refine wq_b 95 91 d240_88 rfl (by decide) rfl (fun c88 => ?_) (fun c88 => ?_)
              · -- pc 95
                have f88 := b2z c88
                refine wq_k 96 0 d240_95 (by decide) rfl ?_
                refine wq_s 97 d240_96 rfl rfl (Nat.le_of_ble_eq_true rfl) rfl rfl ?_
                first | exact mid _ _ (Or.inr ⟨rfl, hw3⟩) | exact mid _ _ (Or.inl rfl)
              · -- pc 91
                have f88 := b2n c88
                have ha : pg_any (pt_T t M n) xs_bg c = true := by first | (simp only [pg_any_c, f33, Bool.true_or]; done) | (simp only [pg_any_c, f41, Bool.true_or, Bool.or_true]; done) | (simp only [pg_any_c, f50, Bool.true_or, Bool.or_true]; done) | (simp only [pg_any_c, f59, Bool.true_or, Bool.or_true]; done) | (simp only [pg_any_c, f68, Bool.true_or, Bool.or_true]; done) | (simp only [pg_any_c, f78, Bool.true_or, Bool.or_true]; done) | (simp only [pg_any_c, f88, Bool.true_or, Bool.or_true]; done)
                have hw3 : w = 3 := by
                  rcases hbg with y | y
                  · exact y
                  · rw [ha] at y; cases y
                refine wq_k 92 1 d240_91 (by decide) rfl ?_
                refine wq_g 96 d240_92 (by decide) ?_
                refine wq_s 97 d240_96 rfl rfl (Nat.le_of_ble_eq_true rfl) rfl rfl ?_
                first | exact mid _ _ (Or.inr ⟨rfl, hw3⟩) | exact mid _ _ (Or.inl rfl)
theorem xs240R {d : Nat} {Q : Option Value → pm_S → Prop} {t : Nat → Nat} {M n body : Nat} {σ : pm_S} {c : pg_C} {h : rp_H} {s ek : Nat} (hN : rp_n t M n) (he : xs_ok ek) (hS : rp_S t M n σ c h s) (z : σ.1 10 6 = 0) (h34 : σ.1 10 34 = nI 0) (hbg : pg_any (pt_T t M n) xs_bg c = false) (hte : pg_is (pt_T t M n) ek c = false) (A : ∀ σ2, rp_S t M n σ2 (pg_stop c) h s → rp_K σ σ2 → xs_W d Q body ek σ2) : xs_W d Q body ek σ := by
  intro a3 a4
  have hne : ¬ σ.1 10 3 = rx_c ek := fun q => by have := (xs_te hN he hS z).mp q; rw [hte] at this; cases this
  have mid : ∀ a4 : Value, pm_WP pm_Y0 (pm_call pm_Y0 (d + 17)) 10 prog_14_method_69_code none Q 97 [.ref 10, .int (nI body), .int (rx_c ek), .int 0, a4] [] σ := by
    intro a4
    refine wq_l 98 d240_97 rfl rfl rfl rfl ?_
    refine wq_gi (ci := 10) (j := 34) 101 d240_98 rfl rfl rfl rfl ?_
    rw [h34]
    refine wq_b 119 104 d240_101 rfl (by decide) rfl (fun c101 => ?_) (fun c101 => absurd (by decide) c101)
    refine wq_k 120 1 d240_119 (by decide) rfl ?_
    refine wq_g 124 d240_120 (by decide) ?_
    refine wq_s 126 d240_124 rfl rfl (Nat.le_of_ble_eq_true rfl) rfl rfl ?_
    refine wq_l 127 d240_126 rfl rfl rfl rfl ?_
    refine wq_b 164 130 d240_127 rfl (by decide) rfl (fun c127 => ?_) (fun c127 => absurd (by decide) c127)
    refine wq_l 165 d240_164 rfl rfl rfl rfl ?_
    refine wq_gi (ci := 10) (j := 34) 168 d240_165 rfl rfl rfl rfl ?_
    rw [h34]
    refine wq_b 178 171 d240_168 rfl (by decide) rfl (fun c168 => ?_) (fun c168 => absurd (by decide) c168)
    refine wq_l 179 d240_178 rfl rfl rfl rfl ?_
    refine wq_v 182 [] d240_179 rfl rfl m230 rfl rfl (Nat.le_of_ble_eq_true rfl) rfl (rp_ref hN hS (fun σ2 h2 k2 => ?_))
    refine wq_g 5 d240_182 (by decide) ?_
    exact A σ2 h2 k2 _ _
  refine wq_l 6 d240_5 rfl rfl rfl rfl ?_
  refine wq_gi (ci := 10) (j := 6) 9 d240_6 rfl rfl rfl rfl ?_
  refine wq_b 185 12 d240_9 rfl (by decide) rfl (fun c9 => absurd c9 (fun y => y z)) (fun c9 => ?_)
  refine wq_l 13 d240_12 rfl rfl rfl rfl ?_
  refine wq_gi (ci := 10) (j := 34) 16 d240_13 rfl rfl rfl rfl ?_
  rw [h34]
  refine wq_b 27 19 d240_16 rfl (by decide) rfl (fun c16 => absurd c16 (by decide)) (fun c16 => ?_)
  refine wq_l 20 d240_19 rfl rfl rfl rfl ?_
  refine wq_gi (ci := 10) (j := 3) 23 d240_20 rfl rfl rfl rfl ?_
  refine wq_l 24 d240_23 rfl rfl rfl rfl ?_
  refine wq_b 185 27 d240_24 rfl (by decide) rfl (fun c24 => absurd c24 (hne)) (fun c24 => ?_)
  refine wq_l 28 d240_27 rfl rfl rfl rfl ?_
  refine wq_k 30 59 d240_28 (by decide) rfl ?_
  refine wq_v 33 [_] d240_30 rfl rfl m238 rfl rfl (Nat.le_of_ble_eq_true rfl) rfl (rp_sg (k := 57) hN (by decide) (by decide) hS ?_)
  refine wq_b 91 36 d240_33 rfl (by decide) rfl (fun c33 => ?_) (fun c33 => ?_)
  · -- pc 91
    have f33 := b2n c33
    exact absurd hbg (by first | (simp only [pg_any_c, f33, Bool.true_or]; decide) | (simp only [pg_any_c, f41, Bool.true_or, Bool.or_true]; decide) | (simp only [pg_any_c, f50, Bool.true_or, Bool.or_true]; decide) | (simp only [pg_any_c, f59, Bool.true_or, Bool.or_true]; decide) | (simp only [pg_any_c, f68, Bool.true_or, Bool.or_true]; decide) | (simp only [pg_any_c, f78, Bool.true_or, Bool.or_true]; decide) | (simp only [pg_any_c, f88, Bool.true_or, Bool.or_true]; decide))
  · -- pc 36
    have f33 := b2y c33
    refine wq_l 37 d240_36 rfl rfl rfl rfl ?_
    refine wq_k 38 1 d240_37 (by decide) rfl ?_
    refine wq_v 41 [_] d240_38 rfl rfl m224 rfl rfl (Nat.le_of_ble_eq_true rfl) rfl (rp_is (k := 41) hN (by decide) (by decide) hS ?_)
    refine wq_b 91 44 d240_41 rfl (by decide) rfl (fun c41 => ?_) (fun c41 => ?_)
    · -- pc 91
      have f41 := b2n c41
      exact absurd hbg (by first | (simp only [pg_any_c, f33, Bool.true_or]; decide) | (simp only [pg_any_c, f41, Bool.true_or, Bool.or_true]; decide) | (simp only [pg_any_c, f50, Bool.true_or, Bool.or_true]; decide) | (simp only [pg_any_c, f59, Bool.true_or, Bool.or_true]; decide) | (simp only [pg_any_c, f68, Bool.true_or, Bool.or_true]; decide) | (simp only [pg_any_c, f78, Bool.true_or, Bool.or_true]; decide) | (simp only [pg_any_c, f88, Bool.true_or, Bool.or_true]; decide))
    · -- pc 44
      have f41 := b2y c41
      refine wq_l 45 d240_44 rfl rfl rfl rfl ?_
      refine wq_k 47 116 d240_45 (by decide) rfl ?_
      refine wq_v 50 [_] d240_47 rfl rfl m224 rfl rfl (Nat.le_of_ble_eq_true rfl) rfl (rp_is (k := 16) hN (by decide) (by decide) hS ?_)
      refine wq_b 91 53 d240_50 rfl (by decide) rfl (fun c50 => ?_) (fun c50 => ?_)
      · -- pc 91
        have f50 := b2n c50
        exact absurd hbg (by first | (simp only [pg_any_c, f33, Bool.true_or]; decide) | (simp only [pg_any_c, f41, Bool.true_or, Bool.or_true]; decide) | (simp only [pg_any_c, f50, Bool.true_or, Bool.or_true]; decide) | (simp only [pg_any_c, f59, Bool.true_or, Bool.or_true]; decide) | (simp only [pg_any_c, f68, Bool.true_or, Bool.or_true]; decide) | (simp only [pg_any_c, f78, Bool.true_or, Bool.or_true]; decide) | (simp only [pg_any_c, f88, Bool.true_or, Bool.or_true]; decide))
      · -- pc 53
        have f50 := b2y c50
        refine wq_l 54 d240_53 rfl rfl rfl rfl ?_
        refine wq_k 56 121 d240_54 (by decide) rfl ?_
        refine wq_v 59 [_] d240_56 rfl rfl m224 rfl rfl (Nat.le_of_ble_eq_true rfl) rfl (rp_is (k := 21) hN (by decide) (by decide) hS ?_)
        refine wq_b 91 62 d240_59 rfl (by decide) rfl (fun c59 => ?_) (fun c59 => ?_)
        · -- pc 91
          have f59 := b2n c59
          exact absurd hbg (by first | (simp only [pg_any_c, f33, Bool.true_or]; decide) | (simp only [pg_any_c, f41, Bool.true_or, Bool.or_true]; decide) | (simp only [pg_any_c, f50, Bool.true_or, Bool.or_true]; decide) | (simp only [pg_any_c, f59, Bool.true_or, Bool.or_true]; decide) | (simp only [pg_any_c, f68, Bool.true_or, Bool.or_true]; decide) | (simp only [pg_any_c, f78, Bool.true_or, Bool.or_true]; decide) | (simp only [pg_any_c, f88, Bool.true_or, Bool.or_true]; decide))
        · -- pc 62
          have f59 := b2y c59
          refine wq_l 63 d240_62 rfl rfl rfl rfl ?_
          refine wq_k 65 123 d240_63 (by decide) rfl ?_
          refine wq_v 68 [_] d240_65 rfl rfl m224 rfl rfl (Nat.le_of_ble_eq_true rfl) rfl (rp_is (k := 23) hN (by decide) (by decide) hS ?_)
          refine wq_b 91 71 d240_68 rfl (by decide) rfl (fun c68 => ?_) (fun c68 => ?_)
          · -- pc 91
            have f68 := b2n c68
            exact absurd hbg (by first | (simp only [pg_any_c, f33, Bool.true_or]; decide) | (simp only [pg_any_c, f41, Bool.true_or, Bool.or_true]; decide) | (simp only [pg_any_c, f50, Bool.true_or, Bool.or_true]; decide) | (simp only [pg_any_c, f59, Bool.true_or, Bool.or_true]; decide) | (simp only [pg_any_c, f68, Bool.true_or, Bool.or_true]; decide) | (simp only [pg_any_c, f78, Bool.true_or, Bool.or_true]; decide) | (simp only [pg_any_c, f88, Bool.true_or, Bool.or_true]; decide))
          · -- pc 71
            have f68 := b2y c68
            refine wq_l 72 d240_71 rfl rfl rfl rfl ?_
            refine wq_k 75 128 d240_72 (by decide) rfl ?_
            refine wq_v 78 [_] d240_75 rfl rfl m224 rfl rfl (Nat.le_of_ble_eq_true rfl) rfl (rp_is (k := 28) hN (by decide) (by decide) hS ?_)
            refine wq_b 91 81 d240_78 rfl (by decide) rfl (fun c78 => ?_) (fun c78 => ?_)
            · -- pc 91
              have f78 := b2n c78
              exact absurd hbg (by first | (simp only [pg_any_c, f33, Bool.true_or]; decide) | (simp only [pg_any_c, f41, Bool.true_or, Bool.or_true]; decide) | (simp only [pg_any_c, f50, Bool.true_or, Bool.or_true]; decide) | (simp only [pg_any_c, f59, Bool.true_or, Bool.or_true]; decide) | (simp only [pg_any_c, f68, Bool.true_or, Bool.or_true]; decide) | (simp only [pg_any_c, f78, Bool.true_or, Bool.or_true]; decide) | (simp only [pg_any_c, f88, Bool.true_or, Bool.or_true]; decide))
            · -- pc 81
              have f78 := b2y c78
              refine wq_l 82 d240_81 rfl rfl rfl rfl ?_
              refine wq_k 85 129 d240_82 (by decide) rfl ?_
              refine wq_v 88 [_] d240_85 rfl rfl m224 rfl rfl (Nat.le_of_ble_eq_true rfl) rfl (rp_is (k := 29) hN (by decide) (by decide) hS ?_)
              refine wq_b 95 91 d240_88 rfl (by decide) rfl (fun c88 => ?_) (fun c88 => ?_)
              · -- pc 95
                have f88 := b2z c88
                refine wq_k 96 0 d240_95 (by decide) rfl ?_
                refine wq_s 97 d240_96 rfl rfl (Nat.le_of_ble_eq_true rfl) rfl rfl ?_
                exact mid _
              · -- pc 91
                have f88 := b2n c88
                exact absurd hbg (by first | (simp only [pg_any_c, f33, Bool.true_or]; decide) | (simp only [pg_any_c, f41, Bool.true_or, Bool.or_true]; decide) | (simp only [pg_any_c, f50, Bool.true_or, Bool.or_true]; decide) | (simp only [pg_any_c, f59, Bool.true_or, Bool.or_true]; decide) | (simp only [pg_any_c, f68, Bool.true_or, Bool.or_true]; decide) | (simp only [pg_any_c, f78, Bool.true_or, Bool.or_true]; decide) | (simp only [pg_any_c, f88, Bool.true_or, Bool.or_true]; decide))
theorem xs240X {d : Nat} {Q : Option Value → pm_S → Prop} {body ek : Nat} {σ : pm_S} (hx : ¬ σ.1 10 6 = 0 ∨ (σ.1 10 34 = nI 0 ∧ σ.1 10 3 = rx_c ek)) (hQ : Q none σ) : xs_W d Q body ek σ := by
  intro a3 a4
  by_cases z : σ.1 10 6 = 0
  · obtain ⟨h34, h3⟩ := hx.resolve_left (fun y => y z)
    refine wq_l 6 d240_5 rfl rfl rfl rfl ?_
    refine wq_gi (ci := 10) (j := 6) 9 d240_6 rfl rfl rfl rfl ?_
    refine wq_b 185 12 d240_9 rfl (by decide) rfl (fun c9 => absurd c9 (fun y => y z)) (fun c9 => ?_)
    refine wq_l 13 d240_12 rfl rfl rfl rfl ?_
    refine wq_gi (ci := 10) (j := 34) 16 d240_13 rfl rfl rfl rfl ?_
    rw [h34]
    refine wq_b 27 19 d240_16 rfl (by decide) rfl (fun c16 => absurd c16 (by decide)) (fun c16 => ?_)
    refine wq_l 20 d240_19 rfl rfl rfl rfl ?_
    refine wq_gi (ci := 10) (j := 3) 23 d240_20 rfl rfl rfl rfl ?_
    refine wq_l 24 d240_23 rfl rfl rfl rfl ?_
    refine wq_b 185 27 d240_24 rfl (by decide) rfl (fun c24 => ?_) (fun c24 => absurd (h3) c24)
    refine wq_rv d240_185 ?_
    exact hQ
  · skip
    refine wq_l 6 d240_5 rfl rfl rfl rfl ?_
    refine wq_gi (ci := 10) (j := 6) 9 d240_6 rfl rfl rfl rfl ?_
    refine wq_b 185 12 d240_9 rfl (by decide) rfl (fun c9 => ?_) (fun c9 => absurd (z) c9)
    refine wq_rv d240_185 ?_
    exact hQ
