theorem d240_0 : decode prog_14_method_69_code 0 = .ok (.aload_n 0, 1) := by decide +kernel
theorem d240_1 : decode prog_14_method_69_code 1 = .ok (.iconst 0, 1) := by decide +kernel
theorem d240_2 : decode prog_14_method_69_code 2 = .ok (.putfield 438, 3) := by decide +kernel
theorem d240_5 : decode prog_14_method_69_code 5 = .ok (.aload_n 0, 1) := by decide +kernel
theorem d240_6 : decode prog_14_method_69_code 6 = .ok (.getfield 135, 3) := by decide +kernel
theorem d240_9 : decode prog_14_method_69_code 9 = .ok (.ifCond .ne 176, 3) := by decide +kernel
theorem d240_12 : decode prog_14_method_69_code 12 = .ok (.aload_n 0, 1) := by decide +kernel
theorem d240_13 : decode prog_14_method_69_code 13 = .ok (.getfield 438, 3) := by decide +kernel
theorem d240_16 : decode prog_14_method_69_code 16 = .ok (.ifCond .ne 11, 3) := by decide +kernel
theorem d240_19 : decode prog_14_method_69_code 19 = .ok (.aload_n 0, 1) := by decide +kernel
theorem d240_20 : decode prog_14_method_69_code 20 = .ok (.getfield 157, 3) := by decide +kernel
theorem d240_23 : decode prog_14_method_69_code 23 = .ok (.iload_n 2, 1) := by decide +kernel
theorem d240_24 : decode prog_14_method_69_code 24 = .ok (.if_icmp .eq 161, 3) := by decide +kernel
theorem d240_27 : decode prog_14_method_69_code 27 = .ok (.aload_n 0, 1) := by decide +kernel
theorem d240_28 : decode prog_14_method_69_code 28 = .ok (.bipush 59, 2) := by decide +kernel
theorem d240_30 : decode prog_14_method_69_code 30 = .ok (.invokevirtual 346, 3) := by decide +kernel
theorem d240_33 : decode prog_14_method_69_code 33 = .ok (.ifCond .ne 58, 3) := by decide +kernel
theorem d240_36 : decode prog_14_method_69_code 36 = .ok (.aload_n 0, 1) := by decide +kernel
theorem d240_37 : decode prog_14_method_69_code 37 = .ok (.iconst 1, 1) := by decide +kernel
theorem d240_38 : decode prog_14_method_69_code 38 = .ok (.invokevirtual 331, 3) := by decide +kernel
theorem d240_41 : decode prog_14_method_69_code 41 = .ok (.ifCond .ne 50, 3) := by decide +kernel
theorem d240_44 : decode prog_14_method_69_code 44 = .ok (.aload_n 0, 1) := by decide +kernel
theorem d240_45 : decode prog_14_method_69_code 45 = .ok (.bipush 116, 2) := by decide +kernel
theorem d240_47 : decode prog_14_method_69_code 47 = .ok (.invokevirtual 331, 3) := by decide +kernel
theorem d240_50 : decode prog_14_method_69_code 50 = .ok (.ifCond .ne 41, 3) := by decide +kernel
theorem d240_53 : decode prog_14_method_69_code 53 = .ok (.aload_n 0, 1) := by decide +kernel
theorem d240_54 : decode prog_14_method_69_code 54 = .ok (.bipush 121, 2) := by decide +kernel
theorem d240_56 : decode prog_14_method_69_code 56 = .ok (.invokevirtual 331, 3) := by decide +kernel
theorem d240_59 : decode prog_14_method_69_code 59 = .ok (.ifCond .ne 32, 3) := by decide +kernel
theorem d240_62 : decode prog_14_method_69_code 62 = .ok (.aload_n 0, 1) := by decide +kernel
theorem d240_63 : decode prog_14_method_69_code 63 = .ok (.bipush 123, 2) := by decide +kernel
theorem d240_65 : decode prog_14_method_69_code 65 = .ok (.invokevirtual 331, 3) := by decide +kernel
theorem d240_68 : decode prog_14_method_69_code 68 = .ok (.ifCond .ne 23, 3) := by decide +kernel
theorem d240_71 : decode prog_14_method_69_code 71 = .ok (.aload_n 0, 1) := by decide +kernel
theorem d240_72 : decode prog_14_method_69_code 72 = .ok (.sipush 128, 3) := by decide +kernel
theorem d240_75 : decode prog_14_method_69_code 75 = .ok (.invokevirtual 331, 3) := by decide +kernel
theorem d240_78 : decode prog_14_method_69_code 78 = .ok (.ifCond .ne 13, 3) := by decide +kernel
theorem d240_81 : decode prog_14_method_69_code 81 = .ok (.aload_n 0, 1) := by decide +kernel
theorem d240_82 : decode prog_14_method_69_code 82 = .ok (.sipush 129, 3) := by decide +kernel
theorem d240_85 : decode prog_14_method_69_code 85 = .ok (.invokevirtual 331, 3) := by decide +kernel
theorem d240_88 : decode prog_14_method_69_code 88 = .ok (.ifCond .eq 7, 3) := by decide +kernel
theorem d240_91 : decode prog_14_method_69_code 91 = .ok (.iconst 1, 1) := by decide +kernel
theorem d240_92 : decode prog_14_method_69_code 92 = .ok (.goto 4, 3) := by decide +kernel
theorem d240_95 : decode prog_14_method_69_code 95 = .ok (.iconst 0, 1) := by decide +kernel
theorem d240_96 : decode prog_14_method_69_code 96 = .ok (.istore_n 3, 1) := by decide +kernel
theorem d240_97 : decode prog_14_method_69_code 97 = .ok (.aload_n 0, 1) := by decide +kernel
theorem d240_98 : decode prog_14_method_69_code 98 = .ok (.getfield 438, 3) := by decide +kernel
theorem d240_101 : decode prog_14_method_69_code 101 = .ok (.ifCond .eq 18, 3) := by decide +kernel
theorem d240_104 : decode prog_14_method_69_code 104 = .ok (.aload_n 0, 1) := by decide +kernel
theorem d240_105 : decode prog_14_method_69_code 105 = .ok (.getfield 65, 3) := by decide +kernel
theorem d240_108 : decode prog_14_method_69_code 108 = .ok (.aload_n 0, 1) := by decide +kernel
theorem d240_109 : decode prog_14_method_69_code 109 = .ok (.getfield 438, 3) := by decide +kernel
theorem d240_112 : decode prog_14_method_69_code 112 = .ok (.iconst 1, 1) := by decide +kernel
theorem d240_113 : decode prog_14_method_69_code 113 = .ok (.isub, 1) := by decide +kernel
theorem d240_114 : decode prog_14_method_69_code 114 = .ok (.iaload, 1) := by decide +kernel
theorem d240_115 : decode prog_14_method_69_code 115 = .ok (.iconst 3, 1) := by decide +kernel
theorem d240_116 : decode prog_14_method_69_code 116 = .ok (.if_icmp .eq 7, 3) := by decide +kernel
theorem d240_119 : decode prog_14_method_69_code 119 = .ok (.iconst 1, 1) := by decide +kernel
theorem d240_120 : decode prog_14_method_69_code 120 = .ok (.goto 4, 3) := by decide +kernel
theorem d240_123 : decode prog_14_method_69_code 123 = .ok (.iconst 0, 1) := by decide +kernel
theorem d240_124 : decode prog_14_method_69_code 124 = .ok (.istore 4, 2) := by decide +kernel
theorem d240_126 : decode prog_14_method_69_code 126 = .ok (.iload_n 3, 1) := by decide +kernel
theorem d240_127 : decode prog_14_method_69_code 127 = .ok (.ifCond .eq 37, 3) := by decide +kernel
theorem d240_130 : decode prog_14_method_69_code 130 = .ok (.iload 4, 2) := by decide +kernel
theorem d240_132 : decode prog_14_method_69_code 132 = .ok (.ifCond .eq 32, 3) := by decide +kernel
theorem d240_135 : decode prog_14_method_69_code 135 = .ok (.aload_n 0, 1) := by decide +kernel
theorem d240_136 : decode prog_14_method_69_code 136 = .ok (.aload_n 0, 1) := by decide +kernel
theorem d240_137 : decode prog_14_method_69_code 137 = .ok (.getfield 438, 3) := by decide +kernel
theorem d240_140 : decode prog_14_method_69_code 140 = .ok (.ifCond .ne 7, 3) := by decide +kernel
theorem d240_143 : decode prog_14_method_69_code 143 = .ok (.iload_n 1, 1) := by decide +kernel
theorem d240_144 : decode prog_14_method_69_code 144 = .ok (.goto 14, 3) := by decide +kernel
theorem d240_147 : decode prog_14_method_69_code 147 = .ok (.aload_n 0, 1) := by decide +kernel
theorem d240_148 : decode prog_14_method_69_code 148 = .ok (.getfield 71, 3) := by decide +kernel
theorem d240_151 : decode prog_14_method_69_code 151 = .ok (.aload_n 0, 1) := by decide +kernel
theorem d240_152 : decode prog_14_method_69_code 152 = .ok (.getfield 438, 3) := by decide +kernel
theorem d240_155 : decode prog_14_method_69_code 155 = .ok (.iconst 1, 1) := by decide +kernel
theorem d240_156 : decode prog_14_method_69_code 156 = .ok (.isub, 1) := by decide +kernel
theorem d240_157 : decode prog_14_method_69_code 157 = .ok (.iaload, 1) := by decide +kernel
theorem d240_158 : decode prog_14_method_69_code 158 = .ok (.invokevirtual 465, 3) := by decide +kernel
theorem d240_161 : decode prog_14_method_69_code 161 = .ok (.goto 21, 3) := by decide +kernel
theorem d240_164 : decode prog_14_method_69_code 164 = .ok (.aload_n 0, 1) := by decide +kernel
theorem d240_165 : decode prog_14_method_69_code 165 = .ok (.getfield 438, 3) := by decide +kernel
theorem d240_168 : decode prog_14_method_69_code 168 = .ok (.ifCond .le 10, 3) := by decide +kernel
theorem d240_171 : decode prog_14_method_69_code 171 = .ok (.aload_n 0, 1) := by decide +kernel
theorem d240_172 : decode prog_14_method_69_code 172 = .ok (.invokevirtual 468, 3) := by decide +kernel
theorem d240_175 : decode prog_14_method_69_code 175 = .ok (.goto 7, 3) := by decide +kernel
theorem d240_178 : decode prog_14_method_69_code 178 = .ok (.aload_n 0, 1) := by decide +kernel
theorem d240_179 : decode prog_14_method_69_code 179 = .ok (.invokevirtual 337, 3) := by decide +kernel
theorem d240_182 : decode prog_14_method_69_code 182 = .ok (.goto (-177), 3) := by decide +kernel
theorem d240_185 : decode prog_14_method_69_code 185 = .ok (.return_, 1) := by decide +kernel
theorem m240 : pm_m 240 = some (⟨"TypeRulesModel", "statements", "(II)V"⟩, prog_14_method_69_code, 5, none, 10, 2, 11) := rfl
theorem xs_st57 (T : pg_T) (B : pg_P) (c : pg_C) (h : pg_is T 57 c = true) : pg_stmt T B c = (pg_exp T 57 c, []) := by
  unfold pg_stmt
  rw [xs_s4 _ _ _ _ _ h]
  rfl
theorem xs_st28 (T : pg_T) (B : pg_P) (c : pg_C) (h : pg_is T 28 c = true) : pg_stmt T B c = (pg_exp T 57 (pg_stp c), [(20, pg_pl T c, 0, 1)]) := by
  unfold pg_stmt
  rw [xs_s1 _ _ _ _ _ (xs_isf h (show 28 ≠ 57 by decide)), xs_s3 _ _ _ _ (xs_isf h (show 28 ≠ 41 by decide)), xs_s3 _ _ _ _ (xs_isf h (show 28 ≠ 16 by decide)), xs_s3 _ _ _ _ (xs_isf h (show 28 ≠ 21 by decide)), xs_s3 _ _ _ _ (xs_isf h (show 28 ≠ 23 by decide)), xs_s2 _ _ _ _ h, pg_leaf_c]
theorem xs_st29 (T : pg_T) (B : pg_P) (c : pg_C) (h : pg_is T 29 c = true) : pg_stmt T B c = (pg_exp T 57 (pg_stp c), [(21, pg_pl T c, 0, 1)]) := by
  unfold pg_stmt
  rw [xs_s1 _ _ _ _ _ (xs_isf h (show 29 ≠ 57 by decide)), xs_s3 _ _ _ _ (xs_isf h (show 29 ≠ 41 by decide)), xs_s3 _ _ _ _ (xs_isf h (show 29 ≠ 16 by decide)), xs_s3 _ _ _ _ (xs_isf h (show 29 ≠ 21 by decide)), xs_s3 _ _ _ _ (xs_isf h (show 29 ≠ 23 by decide)), xs_s3 _ _ _ _ (xs_isf h (show 29 ≠ 28 by decide)), pg_leaf_c]
theorem xs241 {d : Nat} {Q : Option Value → pm_S → Prop} {t : Nat → Nat} {M n body : Nat} {σ : pm_S} {c : pg_C} {h : rp_H} {s k b : Nat} {B : pg_P} (hN : rp_n t M n) (L : xs_L t M n body σ c h s k b) (hbg : pg_any (pt_T t M n) xs_bg c = true)
  (AA : pg_any (pt_T t M n) [57, 41, 28, 29] c = true → ∀ σ' h', rp_S t M n σ' (pg_stmt (pt_T t M n) B c).1 h' (s + 8) → rp_E t M n σ h σ' h' b (pg_stmt (pt_T t M n) B c).2 → Q none σ')
  (A1 : pg_is (pt_T t M n) 16 c = true → ∀ σa y σ2 h2 b2, rp_M σ h.1 σa (nI 15) y 0 → (σ2.1 10 6 = 0 → y = nI (pg_pl (pt_T t M n) c)) → xs_ob t M n σa (rp_in h b) h.1 h.1 (pg_E (pt_T t M n) (pg_opn c)).2 1 k σ2 h2 (pg_exp (pt_T t M n) 17 (pg_E (pt_T t M n) (pg_opn c)).1) b2 → rp_S t M n σ2 (pg_exp (pt_T t M n) 17 (pg_E (pt_T t M n) (pg_opn c)).1) h2 (s + 8) → Q none σ2)
  (A6 : pg_is (pt_T t M n) 21 c = true → ∀ σa y σ1 h1, rp_M σ h.1 σa (nI 16) y 0 → (σ1.1 10 6 = 0 → y = nI (pg_pl (pt_T t M n) c)) → rp_Ew t M n σa (rp_in h b) σ1 h1 h.1 (pg_E (pt_T t M n) (pg_opn c)).2 → xs_N σ k σ1 → rp_S t M n (xs_ps σ1 k 3 (nI h.1) (-1)) (pg_exp (pt_T t M n) 15 (pg_E (pt_T t M n) (pg_opn c)).1) h1 (s + 8) → Q none (xs_ps σ1 k 3 (nI h.1) (-1)))
  (A8 : pg_is (pt_T t M n) 23 c = true → ∀ σa y z σ2 h2 b2, rp_M σ h.1 σa (nI 19) y z → (σ2.1 10 6 = 0 → y = nI (pg_pl (pt_T t M n) c) ∧ rp_V t M n 19 z (pg_v (pt_T t M n) (pg_opn c))) → xs_ob t M n σa (rp_in h b) h.1 h.1 (xs_fh (pt_T t M n) c).2 6 k σ2 h2 (xs_fh (pt_T t M n) c).1 b2 → rp_S t M n σ2 (xs_fh (pt_T t M n) c).1 h2 (s + 8) → Q none σ2) : pm_call pm_Y0 (d + 17) 241 [.ref 10, .int (nI b)] σ Q := by
  obtain ⟨hs, hS, z, ⟨h34, _⟩, hb, hko⟩ := L
  have hl := rp_lv hS z
  have h60 := (hS.1.2.2.1 hl).2.2.2.2.2.2.2
  have hpl := rp_pl hS z
  refine wq_m m241 (Nat.le_of_ble_eq_true rfl) (by decide) rfl ?_
  refine wq_l 1 d241_0 rfl rfl rfl rfl ?_
  refine wq_gi (ci := 10) (j := 4) 4 d241_1 rfl rfl rfl rfl ?_
  refine wq_s 5 d241_4 rfl rfl (Nat.le_of_ble_eq_true rfl) rfl rfl ?_
  refine wq_l 6 d241_5 rfl rfl rfl rfl ?_
  refine wq_k 8 59 d241_6 (by decide) rfl ?_
  refine wq_v 11 [_] d241_8 rfl rfl m238 rfl rfl (Nat.le_of_ble_eq_true rfl) rfl (rp_sg (k := 57) hN (by decide) (by decide) hS ?_)
  refine wq_b 21 14 d241_11 rfl (by decide) rfl (fun c11 => ?_) (fun c11 => ?_)
  · -- pc 21
    have f11 := b2z c11
    refine wq_l 22 d241_21 rfl rfl rfl rfl ?_
    refine wq_k 23 1 d241_22 (by decide) rfl ?_
    refine wq_v 26 [_] d241_23 rfl rfl m224 rfl rfl (Nat.le_of_ble_eq_true rfl) rfl (rp_is (k := 41) hN (by decide) (by decide) hS ?_)
    refine wq_b 37 29 d241_26 rfl (by decide) rfl (fun c26 => ?_) (fun c26 => ?_)
    · -- pc 37
      have f26 := b2z c26
      refine wq_l 38 d241_37 rfl rfl rfl rfl ?_
      refine wq_k 40 116 d241_38 (by decide) rfl ?_
      refine wq_v 43 [_] d241_40 rfl rfl m224 rfl rfl (Nat.le_of_ble_eq_true rfl) rfl (rp_is (k := 16) hN (by decide) (by decide) hS ?_)
      refine wq_b 68 46 d241_43 rfl (by decide) rfl (fun c43 => ?_) (fun c43 => ?_)
      · -- pc 68
        have f43 := b2z c43
        refine wq_l 69 d241_68 rfl rfl rfl rfl ?_
        refine wq_k 71 121 d241_69 (by decide) rfl ?_
        refine wq_v 74 [_] d241_71 rfl rfl m224 rfl rfl (Nat.le_of_ble_eq_true rfl) rfl (rp_is (k := 21) hN (by decide) (by decide) hS ?_)
        refine wq_b 119 77 d241_74 rfl (by decide) rfl (fun c74 => ?_) (fun c74 => ?_)
        · -- pc 119
          have f74 := b2z c74
          refine wq_l 120 d241_119 rfl rfl rfl rfl ?_
          refine wq_k 122 123 d241_120 (by decide) rfl ?_
          refine wq_v 125 [_] d241_122 rfl rfl m224 rfl rfl (Nat.le_of_ble_eq_true rfl) rfl (rp_is (k := 23) hN (by decide) (by decide) hS ?_)
          refine wq_b 136 128 d241_125 rfl (by decide) rfl (fun c125 => ?_) (fun c125 => ?_)
          · -- pc 136
            have f125 := b2z c125
            have f29 : pg_is (pt_T t M n) 28 c = false → pg_is (pt_T t M n) 29 c = true := fun q => by
              simp only [pg_any_c, pg_any_n, f11, f26, f43, f74, f125, q, Bool.false_or, Bool.or_false] at hbg
              exact hbg
            have hl44 : pg_live (pt_T t M n) c ∧ (pt_T t M n).1 c.1 ≠ 44 := by
              cases q : pg_is (pt_T t M n) 28 c with
              | true => exact pg_isl q (by decide)
              | false => exact pg_isl (f29 q) (by decide)
            refine wq_l 137 d241_136 rfl rfl rfl rfl ?_
            refine wq_l 138 d241_137 rfl rfl rfl rfl ?_
            refine wq_l 139 d241_138 rfl rfl rfl rfl ?_
            refine wq_k 142 128 d241_139 (by decide) rfl ?_
            refine wq_v 145 [_] d241_142 rfl rfl m224 rfl rfl (Nat.le_of_ble_eq_true rfl) rfl (rp_is (k := 28) hN (by decide) (by decide) hS ?_)
            refine wq_b 153 148 d241_145 rfl (by decide) rfl (fun c145 => ?_) (fun c145 => ?_)
            · -- pc 153
              have f145 := b2z c145
              refine wq_k 155 21 d241_153 (by decide) rfl ?_
              skip
              refine wq_l 156 d241_155 rfl rfl rfl rfl ?_
              refine wq_k 157 0 d241_156 (by decide) rfl ?_
              refine wq_v 160 [_, _, _, _] d241_157 rfl rfl m226 rfl rfl (Nat.le_of_ble_eq_true rfl) rfl (rp_mkin (to := b) hN (by omega) hb hS (fun σ1 h1 m1 => ?_))
              refine wq_a 161 d241_160 rfl rfl ?_
              refine wq_l 162 d241_161 rfl rfl rfl rfl ?_
              refine wq_v 165 [] d241_162 rfl rfl m203 rfl rfl (Nat.le_of_ble_eq_true rfl) rfl (rp_go hN hl44 h1 (fun σ2 h2 k2 => ?_))
              refine wq_l 166 d241_165 rfl rfl rfl rfl ?_
              refine wq_k 169 259 d241_166 (by decide) rfl ?_
              refine wq_v 172 [_] d241_169 rfl rfl m229 rfl rfl (Nat.le_of_ble_eq_true rfl) rfl (rp_want (k := 57) hN (by decide) (by decide) h2 (fun σ3 h3 k3 => ?_))
              have e3 := rp_Mn (t := t) (M := M) (n := n) (k := 21) (p := pg_pl (pt_T t M n) c) (v := 0) hb m1 (rp_Ek (h := rp_in h b) (rp_Kt k2 k3)) (fun _ => ⟨rfl, hpl, rp_V0 (by decide)⟩)
              have fq := f29 f145
              have fin := AA (by simp only [pg_any_c, fq, Bool.true_or, Bool.or_true]) _ _ (by rw [xs_st29 _ _ _ fq]; exact rp_Se h3 rfl (by omega)) (by rw [xs_st29 _ _ _ fq]; exact e3)
              refine wq_rv d241_172 ?_
              exact fin
            · -- pc 148
              have f145 := b2n c145
              skip
              refine wq_k 150 20 d241_148 (by decide) rfl ?_
              refine wq_g 155 d241_150 (by decide) ?_
              skip
              refine wq_l 156 d241_155 rfl rfl rfl rfl ?_
              refine wq_k 157 0 d241_156 (by decide) rfl ?_
              refine wq_v 160 [_, _, _, _] d241_157 rfl rfl m226 rfl rfl (Nat.le_of_ble_eq_true rfl) rfl (rp_mkin (to := b) hN (by omega) hb hS (fun σ1 h1 m1 => ?_))
              refine wq_a 161 d241_160 rfl rfl ?_
              refine wq_l 162 d241_161 rfl rfl rfl rfl ?_
              refine wq_v 165 [] d241_162 rfl rfl m203 rfl rfl (Nat.le_of_ble_eq_true rfl) rfl (rp_go hN hl44 h1 (fun σ2 h2 k2 => ?_))
              refine wq_l 166 d241_165 rfl rfl rfl rfl ?_
              refine wq_k 169 259 d241_166 (by decide) rfl ?_
              refine wq_v 172 [_] d241_169 rfl rfl m229 rfl rfl (Nat.le_of_ble_eq_true rfl) rfl (rp_want (k := 57) hN (by decide) (by decide) h2 (fun σ3 h3 k3 => ?_))
              have e3 := rp_Mn (t := t) (M := M) (n := n) (k := 20) (p := pg_pl (pt_T t M n) c) (v := 0) hb m1 (rp_Ek (h := rp_in h b) (rp_Kt k2 k3)) (fun _ => ⟨rfl, hpl, rp_V0 (by decide)⟩)
              have fq := f145
              have fin := AA (by simp only [pg_any_c, fq, Bool.true_or, Bool.or_true]) _ _ (by rw [xs_st28 _ _ _ fq]; exact rp_Se h3 rfl (by omega)) (by rw [xs_st28 _ _ _ fq]; exact e3)
              refine wq_rv d241_172 ?_
              exact fin
          · -- pc 128
            have f125 := b2n c125
            refine wq_l 129 d241_128 rfl rfl rfl rfl ?_
            refine wq_l 130 d241_129 rfl rfl rfl rfl ?_
            refine wq_v 133 [_] d241_130 rfl rfl m259 rfl rfl (Nat.le_of_ble_eq_true rfl) rfl (rp259 (s := s) hN (by omega) hb f125 h34 (by omega) hS (fun σa y z σ2 h2 b2 m2 hy o hS2 => ?_))
            have fin := A8 f125 _ _ _ _ _ _ m2 hy o hS2
            refine wq_g 172 d241_133 (by decide) ?_
            skip
            refine wq_rv d241_172 ?_
            exact fin
        · -- pc 77
          have f74 := b2n c74
          refine wq_l 78 d241_77 rfl rfl rfl rfl ?_
          refine wq_l 79 d241_78 rfl rfl rfl rfl ?_
          refine wq_k 81 16 d241_79 (by decide) rfl ?_
          refine wq_l 82 d241_81 rfl rfl rfl rfl ?_
          refine wq_k 83 0 d241_82 (by decide) rfl ?_
          refine wq_v 86 [_, _, _, _] d241_83 rfl rfl m226 rfl rfl (Nat.le_of_ble_eq_true rfl) rfl (rp_mkin (to := b) hN (by omega) hb hS (fun σ1 h1 m1 => ?_))
          refine wq_s 87 d241_86 rfl rfl (Nat.le_of_ble_eq_true rfl) rfl rfl ?_
          refine wq_l 88 d241_87 rfl rfl rfl rfl ?_
          refine wq_v 91 [] d241_88 rfl rfl m248 rfl rfl (Nat.le_of_ble_eq_true rfl) rfl (rp_deep hN (pg_isl f74 (by decide)) h1 (fun σ2 h2 k2 => ?_))
          refine wq_l 92 d241_91 rfl rfl rfl rfl ?_
          refine wq_gi (ci := 10) (j := 6) 95 d241_92 rfl rfl rfl rfl ?_
          refine wq_b 103 98 d241_95 rfl (by decide) rfl (fun c95 => ?_) (fun c95 => ?_)
          · -- pc 103
            have dd := rp_dd h2 c95
            have e3 : rp_E t M n σ2 (rp_in h b) σ2 (rp_in h b) h.1 (pg_E (pt_T t M n) (pg_opn c)).2 := rp_Ed rp_Wr c95
            have h3 : rp_S t M n σ2 (pg_E (pt_T t M n) (pg_opn c)).1 (rp_in h b) (s + 4) := rp_Sd h2 dd (pg_dE _ _ dd) (by omega)
            refine wq_l 104 d241_103 rfl rfl rfl rfl ?_
            refine wq_k 106 115 d241_104 (by decide) rfl ?_
            refine wq_v 109 [_] d241_106 rfl rfl m229 rfl rfl (Nat.le_of_ble_eq_true rfl) rfl (rp_want (k := 15) hN (by decide) (by decide) h3 (fun σ4 h4 k4 => ?_))
            refine wq_l 110 d241_109 rfl rfl rfl rfl ?_
            refine wq_k 111 3 d241_110 (by decide) rfl ?_
            refine wq_l 112 d241_111 rfl rfl rfl rfl ?_
            refine wq_k 113 (-1) d241_112 (by decide) rfl ?_
            refine wq_v 116 [_, _, _] d241_113 rfl rfl m258 rfl rfl (Nat.le_of_ble_eq_true rfl) rfl (sp258 (k := k) (by rw [xs_k34 k4, xs_d34 e3.1, xs_k34 k2, xs_d34 m1.1]; exact h34) (by omega) ?_)
            have e4 := rp_Et rp_li e3 (rp_Ek k4)
            rw [List.append_nil] at e4
            have fin := A6 f74 _ _ _ _ (rp_Mk m1 k2) (fun _ => hpl) (rp_Eww e4) (xs_Nt (Nat.le_refl _) (xs_Nt (Nat.le_refl _) (xs_Nd m1.1) (xs_Nd (rp_Df k2.1))) (xs_Nd e4.1)) (rp_Se (xs_Sq xs_qp h4) rfl (by omega))
            refine wq_g 172 d241_116 (by decide) ?_
            skip
            refine wq_rv d241_172 ?_
            exact fin
          · -- pc 98
            skip
            refine wq_l 99 d241_98 rfl rfl rfl rfl ?_
            refine wq_l 100 d241_99 rfl rfl rfl rfl ?_
            refine wq_v 103 [_] d241_100 rfl rfl m244 rfl rfl (Nat.le_of_ble_eq_true rfl) rfl (rp244 (s := s + 1) (to := h.1) hN (by omega) rp_li h2 (fun σ3 h3' h3 g3 => ?_))
            have e3 := g3
            refine wq_l 104 d241_103 rfl rfl rfl rfl ?_
            refine wq_k 106 115 d241_104 (by decide) rfl ?_
            refine wq_v 109 [_] d241_106 rfl rfl m229 rfl rfl (Nat.le_of_ble_eq_true rfl) rfl (rp_want (k := 15) hN (by decide) (by decide) h3 (fun σ4 h4 k4 => ?_))
            refine wq_l 110 d241_109 rfl rfl rfl rfl ?_
            refine wq_k 111 3 d241_110 (by decide) rfl ?_
            refine wq_l 112 d241_111 rfl rfl rfl rfl ?_
            refine wq_k 113 (-1) d241_112 (by decide) rfl ?_
            refine wq_v 116 [_, _, _] d241_113 rfl rfl m258 rfl rfl (Nat.le_of_ble_eq_true rfl) rfl (sp258 (k := k) (by rw [xs_k34 k4, xs_d34 e3.1, xs_k34 k2, xs_d34 m1.1]; exact h34) (by omega) ?_)
            have e4 := rp_Et rp_li e3 (rp_Ek k4)
            rw [List.append_nil] at e4
            have fin := A6 f74 _ _ _ _ (rp_Mk m1 k2) (fun _ => hpl) (rp_Eww e4) (xs_Nt (Nat.le_refl _) (xs_Nt (Nat.le_refl _) (xs_Nd m1.1) (xs_Nd (rp_Df k2.1))) (xs_Nd e4.1)) (rp_Se (xs_Sq xs_qp h4) rfl (by omega))
            refine wq_g 172 d241_116 (by decide) ?_
            skip
            refine wq_rv d241_172 ?_
            exact fin
      · -- pc 46
        have f43 := b2n c43
        refine wq_l 47 d241_46 rfl rfl rfl rfl ?_
        refine wq_l 48 d241_47 rfl rfl rfl rfl ?_
        refine wq_k 50 15 d241_48 (by decide) rfl ?_
        refine wq_l 51 d241_50 rfl rfl rfl rfl ?_
        refine wq_k 52 0 d241_51 (by decide) rfl ?_
        refine wq_v 55 [_, _, _, _] d241_52 rfl rfl m226 rfl rfl (Nat.le_of_ble_eq_true rfl) rfl (rp_mkin (to := b) hN (by omega) hb hS (fun σ1 h1 m1 => ?_))
        refine wq_s 56 d241_55 rfl rfl (Nat.le_of_ble_eq_true rfl) rfl rfl ?_
        refine wq_l 57 d241_56 rfl rfl rfl rfl ?_
        refine wq_v 60 [] d241_57 rfl rfl m248 rfl rfl (Nat.le_of_ble_eq_true rfl) rfl (rp_deep hN (pg_isl f43 (by decide)) h1 (fun σ2 h2 k2 => ?_))
        refine wq_l 61 d241_60 rfl rfl rfl rfl ?_
        refine wq_l 62 d241_61 rfl rfl rfl rfl ?_
        refine wq_v 65 [_] d241_62 rfl rfl m257 rfl rfl (Nat.le_of_ble_eq_true rfl) rfl (rp257 (s := s + 1) hN (by omega) rp_li (by rw [xs_k34 k2, xs_d34 m1.1]; exact h34) (by omega) h2 (fun σ3 h3 b2 o hS3 => ?_))
        have fin := A1 f43 _ _ _ _ _ (rp_Mk m1 k2) (fun _ => hpl) o (rp_Se hS3 rfl (by omega))
        refine wq_g 172 d241_65 (by decide) ?_
        skip
        refine wq_rv d241_172 ?_
        exact fin
    · -- pc 29
      have f26 := b2n c26
      refine wq_l 30 d241_29 rfl rfl rfl rfl ?_
      refine wq_l 31 d241_30 rfl rfl rfl rfl ?_
      refine wq_v 34 [_] d241_31 rfl rfl m242 rfl rfl (Nat.le_of_ble_eq_true rfl) rfl (rp242 (s := s) (B := B) hN (by omega) hb f26 hS (fun σ1 h1 a1 a2 => ?_))
      have fin := AA (by simp only [pg_any_c, f26, Bool.true_or, Bool.or_true]) _ _ a1 a2
      refine wq_g 172 d241_34 (by decide) ?_
      skip
      refine wq_rv d241_172 ?_
      exact fin
  · -- pc 14
    have f11 := b2n c11
    refine wq_l 15 d241_14 rfl rfl rfl rfl ?_
    refine wq_v 18 [] d241_15 rfl rfl m203 rfl rfl (Nat.le_of_ble_eq_true rfl) rfl (rp_go hN (pg_isl f11 (by decide)) hS (fun σ1 h1 k1 => ?_))
    have fin := AA (by simp only [pg_any_c, f11, Bool.true_or]) _ _ (by rw [xs_st57 _ _ _ f11, pg_xs hl f11]; exact rp_Se h1 rfl (by omega)) (by rw [xs_st57 _ _ _ f11]; exact rp_Ek k1)
    refine wq_g 172 d241_18 (by decide) ?_
    skip
    refine wq_rv d241_172 ?_
    exact fin
