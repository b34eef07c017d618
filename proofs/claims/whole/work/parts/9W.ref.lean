theorem d225_0 : decode prog_14_method_42_code 0 = .ok (.aload_n 0, 1) := by decide +kernel
theorem d225_1 : decode prog_14_method_42_code 1 = .ok (.getfield 157, 3) := by decide +kernel
theorem d225_4 : decode prog_14_method_42_code 4 = .ok (.bipush 100, 2) := by decide +kernel
theorem d225_6 : decode prog_14_method_42_code 6 = .ok (.if_icmp .ne 7, 3) := by decide +kernel
theorem d225_9 : decode prog_14_method_42_code 9 = .ok (.iconst 1, 1) := by decide +kernel
theorem d225_10 : decode prog_14_method_42_code 10 = .ok (.goto 17, 3) := by decide +kernel
theorem d225_13 : decode prog_14_method_42_code 13 = .ok (.aload_n 0, 1) := by decide +kernel
theorem d225_14 : decode prog_14_method_42_code 14 = .ok (.getfield 157, 3) := by decide +kernel
theorem d225_17 : decode prog_14_method_42_code 17 = .ok (.bipush 102, 2) := by decide +kernel
theorem d225_19 : decode prog_14_method_42_code 19 = .ok (.if_icmp .ne 7, 3) := by decide +kernel
theorem d225_22 : decode prog_14_method_42_code 22 = .ok (.iconst 2, 1) := by decide +kernel
theorem d225_23 : decode prog_14_method_42_code 23 = .ok (.goto 4, 3) := by decide +kernel
theorem d225_26 : decode prog_14_method_42_code 26 = .ok (.iconst 3, 1) := by decide +kernel
theorem d225_27 : decode prog_14_method_42_code 27 = .ok (.istore_n 2, 1) := by decide +kernel
theorem d225_28 : decode prog_14_method_42_code 28 = .ok (.aload_n 0, 1) := by decide +kernel
theorem d225_29 : decode prog_14_method_42_code 29 = .ok (.getfield 157, 3) := by decide +kernel
theorem d225_32 : decode prog_14_method_42_code 32 = .ok (.iconst 1, 1) := by decide +kernel
theorem d225_33 : decode prog_14_method_42_code 33 = .ok (.iadd, 1) := by decide +kernel
theorem d225_34 : decode prog_14_method_42_code 34 = .ok (.istore_n 3, 1) := by decide +kernel
theorem d225_35 : decode prog_14_method_42_code 35 = .ok (.aload_n 0, 1) := by decide +kernel
theorem d225_36 : decode prog_14_method_42_code 36 = .ok (.iload_n 1, 1) := by decide +kernel
theorem d225_37 : decode prog_14_method_42_code 37 = .ok (.iload_n 2, 1) := by decide +kernel
theorem d225_38 : decode prog_14_method_42_code 38 = .ok (.aload_n 0, 1) := by decide +kernel
theorem d225_39 : decode prog_14_method_42_code 39 = .ok (.getfield 151, 3) := by decide +kernel
theorem d225_42 : decode prog_14_method_42_code 42 = .ok (.iconst 0, 1) := by decide +kernel
theorem d225_43 : decode prog_14_method_42_code 43 = .ok (.invokevirtual 349, 3) := by decide +kernel
theorem d225_46 : decode prog_14_method_42_code 46 = .ok (.istore 4, 2) := by decide +kernel
theorem d225_48 : decode prog_14_method_42_code 48 = .ok (.aload_n 0, 1) := by decide +kernel
theorem d225_49 : decode prog_14_method_42_code 49 = .ok (.invokevirtual 334, 3) := by decide +kernel
theorem d225_52 : decode prog_14_method_42_code 52 = .ok (.aload_n 0, 1) := by decide +kernel
theorem d225_53 : decode prog_14_method_42_code 53 = .ok (.getfield 151, 3) := by decide +kernel
theorem d225_56 : decode prog_14_method_42_code 56 = .ok (.istore 5, 2) := by decide +kernel
theorem d225_58 : decode prog_14_method_42_code 58 = .ok (.aload_n 0, 1) := by decide +kernel
theorem d225_59 : decode prog_14_method_42_code 59 = .ok (.getfield 35, 3) := by decide +kernel
theorem d225_62 : decode prog_14_method_42_code 62 = .ok (.iload 4, 2) := by decide +kernel
theorem d225_64 : decode prog_14_method_42_code 64 = .ok (.aload_n 0, 1) := by decide +kernel
theorem d225_65 : decode prog_14_method_42_code 65 = .ok (.invokevirtual 356, 3) := by decide +kernel
theorem d225_68 : decode prog_14_method_42_code 68 = .ok (.iastore, 1) := by decide +kernel
theorem d225_69 : decode prog_14_method_42_code 69 = .ok (.iload_n 2, 1) := by decide +kernel
theorem d225_70 : decode prog_14_method_42_code 70 = .ok (.iconst 1, 1) := by decide +kernel
theorem d225_71 : decode prog_14_method_42_code 71 = .ok (.if_icmp .ne 22, 3) := by decide +kernel
theorem d225_74 : decode prog_14_method_42_code 74 = .ok (.aload_n 0, 1) := by decide +kernel
theorem d225_75 : decode prog_14_method_42_code 75 = .ok (.sipush 258, 3) := by decide +kernel
theorem d225_78 : decode prog_14_method_42_code 78 = .ok (.invokevirtual 340, 3) := by decide +kernel
theorem d225_81 : decode prog_14_method_42_code 81 = .ok (.aload_n 0, 1) := by decide +kernel
theorem d225_82 : decode prog_14_method_42_code 82 = .ok (.getfield 151, 3) := by decide +kernel
theorem d225_85 : decode prog_14_method_42_code 85 = .ok (.istore 5, 2) := by decide +kernel
theorem d225_87 : decode prog_14_method_42_code 87 = .ok (.aload_n 0, 1) := by decide +kernel
theorem d225_88 : decode prog_14_method_42_code 88 = .ok (.iload 4, 2) := by decide +kernel
theorem d225_90 : decode prog_14_method_42_code 90 = .ok (.invokevirtual 363, 3) := by decide +kernel
theorem d225_93 : decode prog_14_method_42_code 93 = .ok (.aload_n 0, 1) := by decide +kernel
theorem d225_94 : decode prog_14_method_42_code 94 = .ok (.getfield 135, 3) := by decide +kernel
theorem d225_97 : decode prog_14_method_42_code 97 = .ok (.ifCond .ne 77, 3) := by decide +kernel
theorem d225_100 : decode prog_14_method_42_code 100 = .ok (.aload_n 0, 1) := by decide +kernel
theorem d225_101 : decode prog_14_method_42_code 101 = .ok (.getfield 157, 3) := by decide +kernel
theorem d225_104 : decode prog_14_method_42_code 104 = .ok (.bipush 106, 2) := by decide +kernel
theorem d225_106 : decode prog_14_method_42_code 106 = .ok (.if_icmp .lt 68, 3) := by decide +kernel
theorem d225_109 : decode prog_14_method_42_code 109 = .ok (.aload_n 0, 1) := by decide +kernel
theorem d225_110 : decode prog_14_method_42_code 110 = .ok (.getfield 157, 3) := by decide +kernel
theorem d225_113 : decode prog_14_method_42_code 113 = .ok (.bipush 109, 2) := by decide +kernel
theorem d225_115 : decode prog_14_method_42_code 115 = .ok (.if_icmp .ge 59, 3) := by decide +kernel
theorem d225_118 : decode prog_14_method_42_code 118 = .ok (.aload_n 0, 1) := by decide +kernel
theorem d225_119 : decode prog_14_method_42_code 119 = .ok (.iload 4, 2) := by decide +kernel
theorem d225_121 : decode prog_14_method_42_code 121 = .ok (.iconst 4, 1) := by decide +kernel
theorem d225_122 : decode prog_14_method_42_code 122 = .ok (.aload_n 0, 1) := by decide +kernel
theorem d225_123 : decode prog_14_method_42_code 123 = .ok (.getfield 151, 3) := by decide +kernel
theorem d225_126 : decode prog_14_method_42_code 126 = .ok (.aload_n 0, 1) := by decide +kernel
theorem d225_127 : decode prog_14_method_42_code 127 = .ok (.getfield 157, 3) := by decide +kernel
theorem d225_130 : decode prog_14_method_42_code 130 = .ok (.bipush 106, 2) := by decide +kernel
theorem d225_132 : decode prog_14_method_42_code 132 = .ok (.isub, 1) := by decide +kernel
theorem d225_133 : decode prog_14_method_42_code 133 = .ok (.invokevirtual 349, 3) := by decide +kernel
theorem d225_136 : decode prog_14_method_42_code 136 = .ok (.istore 6, 2) := by decide +kernel
theorem d225_138 : decode prog_14_method_42_code 138 = .ok (.aload_n 0, 1) := by decide +kernel
theorem d225_139 : decode prog_14_method_42_code 139 = .ok (.invokevirtual 334, 3) := by decide +kernel
theorem d225_142 : decode prog_14_method_42_code 142 = .ok (.aload_n 0, 1) := by decide +kernel
theorem d225_143 : decode prog_14_method_42_code 143 = .ok (.iconst 1, 1) := by decide +kernel
theorem d225_144 : decode prog_14_method_42_code 144 = .ok (.invokevirtual 331, 3) := by decide +kernel
theorem d225_147 : decode prog_14_method_42_code 147 = .ok (.ifCond .eq 12, 3) := by decide +kernel
theorem d225_150 : decode prog_14_method_42_code 150 = .ok (.aload_n 0, 1) := by decide +kernel
theorem d225_151 : decode prog_14_method_42_code 151 = .ok (.iload 6, 2) := by decide +kernel
theorem d225_153 : decode prog_14_method_42_code 153 = .ok (.invokevirtual 366, 3) := by decide +kernel
theorem d225_156 : decode prog_14_method_42_code 156 = .ok (.goto (-14), 3) := by decide +kernel
theorem d225_159 : decode prog_14_method_42_code 159 = .ok (.aload_n 0, 1) := by decide +kernel
theorem d225_160 : decode prog_14_method_42_code 160 = .ok (.getfield 151, 3) := by decide +kernel
theorem d225_163 : decode prog_14_method_42_code 163 = .ok (.istore 5, 2) := by decide +kernel
theorem d225_165 : decode prog_14_method_42_code 165 = .ok (.aload_n 0, 1) := by decide +kernel
theorem d225_166 : decode prog_14_method_42_code 166 = .ok (.bipush 109, 2) := by decide +kernel
theorem d225_168 : decode prog_14_method_42_code 168 = .ok (.invokevirtual 340, 3) := by decide +kernel
theorem d225_171 : decode prog_14_method_42_code 171 = .ok (.goto (-78), 3) := by decide +kernel
theorem d225_174 : decode prog_14_method_42_code 174 = .ok (.aload_n 0, 1) := by decide +kernel
theorem d225_175 : decode prog_14_method_42_code 175 = .ok (.sipush 137, 3) := by decide +kernel
theorem d225_178 : decode prog_14_method_42_code 178 = .ok (.invokevirtual 331, 3) := by decide +kernel
theorem d225_181 : decode prog_14_method_42_code 181 = .ok (.ifCond .eq 12, 3) := by decide +kernel
theorem d225_184 : decode prog_14_method_42_code 184 = .ok (.aload_n 0, 1) := by decide +kernel
theorem d225_185 : decode prog_14_method_42_code 185 = .ok (.iload 4, 2) := by decide +kernel
theorem d225_187 : decode prog_14_method_42_code 187 = .ok (.invokevirtual 369, 3) := by decide +kernel
theorem d225_190 : decode prog_14_method_42_code 190 = .ok (.goto 26, 3) := by decide +kernel
theorem d225_193 : decode prog_14_method_42_code 193 = .ok (.aload_n 0, 1) := by decide +kernel
theorem d225_194 : decode prog_14_method_42_code 194 = .ok (.getfield 135, 3) := by decide +kernel
theorem d225_197 : decode prog_14_method_42_code 197 = .ok (.ifCond .ne 19, 3) := by decide +kernel
theorem d225_200 : decode prog_14_method_42_code 200 = .ok (.aload_n 0, 1) := by decide +kernel
theorem d225_201 : decode prog_14_method_42_code 201 = .ok (.aload_n 0, 1) := by decide +kernel
theorem d225_202 : decode prog_14_method_42_code 202 = .ok (.iload 4, 2) := by decide +kernel
theorem d225_204 : decode prog_14_method_42_code 204 = .ok (.bipush 11, 2) := by decide +kernel
theorem d225_206 : decode prog_14_method_42_code 206 = .ok (.iload 5, 2) := by decide +kernel
theorem d225_208 : decode prog_14_method_42_code 208 = .ok (.iconst 0, 1) := by decide +kernel
theorem d225_209 : decode prog_14_method_42_code 209 = .ok (.invokevirtual 349, 3) := by decide +kernel
theorem d225_212 : decode prog_14_method_42_code 212 = .ok (.iload_n 3, 1) := by decide +kernel
theorem d225_213 : decode prog_14_method_42_code 213 = .ok (.invokevirtual 372, 3) := by decide +kernel
theorem d225_216 : decode prog_14_method_42_code 216 = .ok (.aload_n 0, 1) := by decide +kernel
theorem d225_217 : decode prog_14_method_42_code 217 = .ok (.iload_n 3, 1) := by decide +kernel
theorem d225_218 : decode prog_14_method_42_code 218 = .ok (.invokevirtual 340, 3) := by decide +kernel
theorem d225_221 : decode prog_14_method_42_code 221 = .ok (.return_, 1) := by decide +kernel
theorem m225 : pm_m 225 = some (⟨"TypeRulesModel", "block", "(I)V"⟩, prog_14_method_42_code, 7, none, 10, 1, 11) := rfl
/-! blocks -/
theorem pg_ladd_k (T : pg_T) (c : pg_C) : ∃ K, K = 8192 ∧ pg_ladd T c = (pg_exp T 38 (pg_whl (pg_is T 39) (pg_rung T) K (pg_stp c)).1, (22, pg_pl T c, 0, (pg_whl (pg_is T 39) (pg_rung T) K (pg_stp c)).2.length + 1) :: (pg_whl (pg_is T 39) (pg_rung T) K (pg_stp c)).2) := by
  refine ⟨pg_M, rfl, ?_⟩
  unfold pg_ladd
  exact xs_n7 22 _ _ _ _ _ c
theorem rp235 {d : Nat} {Q : Option Value → pm_S → Prop} {t : Nat → Nat} {M n : Nat} {σ : pm_S} {h : rp_H} {c : pg_C} {s : Nat} {nd : Nat} (hN : rp_n t M n) (hs : s ≤ 2200) (ht : nd < h.1) (hf : pg_is (pt_T t M n) 37 c = true) (hS : rp_S t M n σ c h s) (hQ : ∀ σ' h', rp_S t M n σ' (pg_ladd (pt_T t M n) c).1 h' (s + 21) → rp_E t M n σ h σ' h' nd (pg_ladd (pt_T t M n) c).2 → Q none σ') : pm_call pm_Y0 (d + 13) 235 [.ref 10, .int (nI nd)] σ Q := by
  have hl := pg_isl hf (by decide)
  have z := rp_l0 hS hl.1
  have hpl := rp_pl hS z
  have qs := xe_ls hl.1
  have n1 := hN.1
  have n2 := hN.2.2.2.1
  have hbd := hS.2.2
  obtain ⟨K, eK, er⟩ := pg_ladd_k (pt_T t M n) c
  rw [er] at hQ
  dsimp only at hQ
  refine wq_m m235 (Nat.le_of_ble_eq_true rfl) (by decide) rfl ?_
  refine wq_l 1 d235_0 rfl rfl rfl rfl ?_
  refine wq_l 2 d235_1 rfl rfl rfl rfl ?_
  refine wq_k 4 22 d235_2 (by decide) rfl ?_
  refine wq_l 5 d235_4 rfl rfl rfl rfl ?_
  refine wq_gi (ci := 10) (j := 4) 8 d235_5 rfl rfl rfl rfl ?_
  refine wq_k 9 0 d235_8 (by decide) rfl ?_
  refine wq_v 12 [_, _, _, _] d235_9 rfl rfl m226 rfl rfl (Nat.le_of_ble_eq_true rfl) rfl (rp_mkin (to := nd) hN (by omega) ht hS (fun σ1 h1 m1 => ?_))
  refine wq_s 13 d235_12 rfl rfl (Nat.le_of_ble_eq_true rfl) rfl rfl ?_
  refine wq_l 14 d235_13 rfl rfl rfl rfl ?_
  refine wq_v 17 [] d235_14 rfl rfl m203 rfl rfl (Nat.le_of_ble_eq_true rfl) rfl (rp_go hN hl h1 (fun σ2 h2 k2 => ?_))
  refine rpl235 (s := s + 1) hN (by omega) K _ _ _ _ (rp_t0 h2) rp_li (fun _ => by omega) (fun σ3 h3 a3 b1 b2 => ?_)
  refine wq_l 85 d235_84 rfl rfl rfl rfl ?_
  refine wq_k 88 138 d235_85 (by decide) rfl ?_
  refine wq_v 91 [_] d235_88 rfl rfl m229 rfl rfl (Nat.le_of_ble_eq_true rfl) rfl (rp_want (k := 38) hN (by decide) (by decide) b1.1 (fun σ4 h4 k4 => ?_))
  refine wq_rv d235_91 ?_
  have g4 := rp_Mn (k := 22) (p := pg_pl (pt_T t M n) c) (v := 0) ht m1 (rp_Et rp_li (rp_Ek (h := rp_in h nd) k2) (rp_Ee (rp_Et rp_li b2 (rp_Ek k4)) (List.append_nil _))) (fun _ => ⟨rfl, hpl, rp_V0 (by decide)⟩)
  rw [List.nil_append] at g4
  exact hQ _ _ (rp_Se h4 rfl (by omega)) g4
theorem pg_decl_n (T : pg_T) (c : pg_C) : 1 ≤ (pg_decl T c).2.length := by
  rw [pg_decl_c]
  exact Nat.succ_le_succ (Nat.zero_le _)
theorem rpl225i {d : Nat} {Q : Option Value → pm_S → Prop} {t : Nat → Nat} {M n : Nat} {s nd : Nat} {a1 a2 a3 a4 a5 : Value} (hN : rp_n t M n) (hs : s ≤ 2400) : ∀ (kk : Nat) (σ : pm_S) (c : pg_C) (h : rp_H), rp_T2 t M n σ c h s 16 → nd < h.1 → (σ.1 10 6 = 0 → n ≤ c.1 + kk ∧ 1 ≤ c.1) → (∀ σ' h', rp_T2 t M n σ' (pg_whl (pg_is (pt_T t M n) 41) (pg_decl (pt_T t M n)) kk c).1 h' s 16 → rp_E t M n σ h σ' h' nd (pg_whl (pg_is (pt_T t M n) 41) (pg_decl (pt_T t M n)) kk c).2 → pm_WP pm_Y0 (pm_call pm_Y0 (d + 18)) 10 prog_14_method_42_code none Q 159 [.ref 10, a1, a2, a3, a4, a5, .int (nI nd)] [] σ') → pm_WP pm_Y0 (pm_call pm_Y0 (d + 18)) 10 prog_14_method_42_code none Q 142 [.ref 10, a1, a2, a3, a4, a5, .int (nI nd)] [] σ := by
  intro kk
  induction kk with
  | zero =>
    intro σ c h hT ht hl hX
    by_cases z : σ.1 10 6 = 0
    · have := (hl z).1
      have := hT.1.1.2.1
      omega
    · have dd := rp_dd hT.1 z
      refine wq_l 143 d225_142 rfl rfl rfl rfl ?_
      refine wq_k 144 1 d225_143 (by decide) rfl ?_
      refine wq_v 147 [_] d225_144 rfl rfl m224 rfl rfl (Nat.le_of_ble_eq_true rfl) rfl (rp_is (k := 41) hN (by decide) (by decide) hT.1 ?_)
      rw [pg_gis (pt_T t M n) (k := 41) (by decide) _ dd]
      refine wq_b 159 150 d225_147 rfl (by decide) rfl (fun c147 => ?_) (fun c147 => absurd (by decide) c147)
      exact hX σ h hT rp_Er
  | succ kk ih =>
    intro σ c h hT ht hl hX
    rw [pg_whl_c] at hX
    cases q : pg_is (pt_T t M n) 41 c with
    | false =>
      rw [if_neg (by rw [q]; decide)] at hX
      refine wq_l 143 d225_142 rfl rfl rfl rfl ?_
      refine wq_k 144 1 d225_143 (by decide) rfl ?_
      refine wq_v 147 [_] d225_144 rfl rfl m224 rfl rfl (Nat.le_of_ble_eq_true rfl) rfl (rp_is (k := 41) hN (by decide) (by decide) hT.1 ?_)
      rw [q]
      refine wq_b 159 150 d225_147 rfl (by decide) rfl (fun c147 => ?_) (fun c147 => absurd (by decide) c147)
      exact hX σ h hT rp_Er
    | true =>
      rw [if_pos q, pg_seq_c] at hX
      dsimp only at hX
      have z := rp_l0 hT.1 (pg_isl q (by decide)).1
      have hS := rp_t1 hT z
      refine wq_l 143 d225_142 rfl rfl rfl rfl ?_
      refine wq_k 144 1 d225_143 (by decide) rfl ?_
      refine wq_v 147 [_] d225_144 rfl rfl m224 rfl rfl (Nat.le_of_ble_eq_true rfl) rfl (rp_is (k := 41) hN (by decide) (by decide) hS ?_)
      rw [q]
      refine wq_b 159 150 d225_147 rfl (by decide) rfl (fun c147 => absurd c147 (by decide)) (fun c147 => ?_)
      refine wq_l 151 d225_150 rfl rfl rfl rfl ?_
      refine wq_l 153 d225_151 rfl rfl rfl rfl ?_
      refine wq_v 156 [_] d225_153 rfl rfl m232 rfl rfl (Nat.le_of_ble_eq_true rfl) rfl (rp232 (s := s) hN (by omega) ht (hl z).2 z hS (fun σ3 h3' h3 e3 => ?_))
      refine wq_g 142 d225_156 (by decide) ?_
      have hT3 := rp_t2 (D := 16) (pg_Ldecl (pt_T t M n)) hS (rp_Se h3 rfl (by omega)) e3
      exact ih _ _ _ hT3 (Nat.lt_of_lt_of_le ht e3.2.1) (fun y => by have := hl z; have := rp_t3 (pg_Ldecl (pt_T t M n)) (pg_decl_n _ _) (rp_lv h3 y); omega) (fun σ' h' b1 b2 => hX σ' h' b1 (rp_Et ht e3 b2))
theorem rx_va : ∀ k, k < 69 → k ≠ 45 → k ≠ 46 → ((106 ≤ (rx_c k).toInt ∧ (rx_c k).toInt < 109) ↔ (k = 6 ∨ k = 7 ∨ k = 8)) := by decide +kernel
theorem rx_vs : ∀ k, k < 69 → (k = 6 ∨ k = 7 ∨ k = 8) → rx_c k - 106 = nI (k - 6) := by decide +kernel
theorem pg_sect_k (T : pg_T) (c : pg_C) : ∃ K, K = 8192 ∧ pg_sect T c = (pg_exp T 9 (pg_whl (pg_is T 41) (pg_decl T) K (pg_stp c)).1, (4, pg_pl T c, nI (pg_k T c - 6), (pg_whl (pg_is T 41) (pg_decl T) K (pg_stp c)).2.length + 1) :: (pg_whl (pg_is T 41) (pg_decl T) K (pg_stp c)).2) := by
  refine ⟨pg_M, rfl, ?_⟩
  unfold pg_sect
  exact xs_n7 4 _ _ _ _ _ c
theorem pg_sect_n (T : pg_T) (c : pg_C) : 1 ≤ (pg_sect T c).2.length := by
  obtain ⟨K, _, e⟩ := pg_sect_k T c
  rw [e]
  exact Nat.succ_le_succ (Nat.zero_le _)
theorem rpl225 {d : Nat} {Q : Option Value → pm_S → Prop} {t : Nat → Nat} {M n : Nat} {s nd : Nat} {a1 a2 a3 : Value} (hN : rp_n t M n) (hs : s ≤ 2300) : ∀ (kk : Nat) (σ : pm_S) (c : pg_C) (h : rp_H) (bf : Int32) (a6 : Value), rp_T2 t M n σ c h s 20 → nd < h.1 → (σ.1 10 6 = 0 → n ≤ c.1 + kk ∧ 1 ≤ c.1) → (σ.1 10 6 = 0 → bf = nI (xs_bp (pt_T t M n) c)) → (∀ σ' h' bf a6, rp_T2 t M n σ' (pg_whl (pg_any (pt_T t M n) [6, 7, 8]) (pg_sect (pt_T t M n)) kk c).1 h' s 20 → rp_E t M n σ h σ' h' nd (pg_whl (pg_any (pt_T t M n) [6, 7, 8]) (pg_sect (pt_T t M n)) kk c).2 → (σ'.1 10 6 = 0 → bf = nI (xs_bp (pt_T t M n) (pg_whl (pg_any (pt_T t M n) [6, 7, 8]) (pg_sect (pt_T t M n)) kk c).1)) → pm_WP pm_Y0 (pm_call pm_Y0 (d + 18)) 10 prog_14_method_42_code none Q 174 [.ref 10, a1, a2, a3, .int (nI nd), .int bf, a6] [] σ') → pm_WP pm_Y0 (pm_call pm_Y0 (d + 18)) 10 prog_14_method_42_code none Q 93 [.ref 10, a1, a2, a3, .int (nI nd), .int bf, a6] [] σ := by
  intro kk
  have dead : ∀ kk (σ : pm_S) (c : pg_C) (h : rp_H) (bf : Int32) (a6 : Value), rp_T2 t M n σ c h s 20 → ¬ σ.1 10 6 = 0 → (∀ σ' h' bf a6, rp_T2 t M n σ' (pg_whl (pg_any (pt_T t M n) [6, 7, 8]) (pg_sect (pt_T t M n)) kk c).1 h' s 20 → rp_E t M n σ h σ' h' nd (pg_whl (pg_any (pt_T t M n) [6, 7, 8]) (pg_sect (pt_T t M n)) kk c).2 → (σ'.1 10 6 = 0 → bf = nI (xs_bp (pt_T t M n) (pg_whl (pg_any (pt_T t M n) [6, 7, 8]) (pg_sect (pt_T t M n)) kk c).1)) → pm_WP pm_Y0 (pm_call pm_Y0 (d + 18)) 10 prog_14_method_42_code none Q 174 [.ref 10, a1, a2, a3, .int (nI nd), .int bf, a6] [] σ') → pm_WP pm_Y0 (pm_call pm_Y0 (d + 18)) 10 prog_14_method_42_code none Q 93 [.ref 10, a1, a2, a3, .int (nI nd), .int bf, a6] [] σ := by
    intro kk σ c h bf a6 hT z hX
    have dd := rp_dd hT.1 z
    refine wq_l 94 d225_93 rfl rfl rfl rfl ?_
    refine wq_gi (ci := 10) (j := 6) 97 d225_94 rfl rfl rfl rfl ?_
    refine wq_b 174 100 d225_97 rfl (by decide) rfl (fun c97 => ?_) (fun c97 => absurd (z) c97)
    exact hX σ h _ _ (xs_dxg hT.1 z (pg_dwhl (pg_gany _ (by decide)) kk c dd)) (rp_Ed rp_Wr z) (fun y => absurd y z)
  induction kk with
  | zero =>
    intro σ c h bf a6 hT ht hl hb hX
    by_cases z : σ.1 10 6 = 0
    · have := (hl z).1
      have := hT.1.1.2.1
      omega
    · exact dead 0 σ c h bf a6 hT z hX
  | succ kk ih =>
    intro σ c h bf a6 hT ht hl hb hX
    by_cases z : σ.1 10 6 = 0
    · have hS := rp_t1 hT z
      have hlv := rp_lv hS z
      have hpl := rp_pl hS z
      obtain ⟨k1, k2, k3⟩ := rp_k6 hN hS z
      have htk := rp_tk hS z
      have hva := rx_va _ k1 k2 k3
      rw [← htk] at hva
      have n1 := hN.1
      have n2 := hN.2.2.2.1
      have qs := xe_ls hlv
      rw [pg_whl_c] at hX
      have hall : (pg_any (pt_T t M n) [6, 7, 8] c = true ↔ (pg_k (pt_T t M n) c = 6 ∨ pg_k (pt_T t M n) c = 7 ∨ pg_k (pt_T t M n) c = 8)) := by unfold pg_any; simp
      refine wq_l 94 d225_93 rfl rfl rfl rfl ?_
      refine wq_gi (ci := 10) (j := 6) 97 d225_94 rfl rfl rfl rfl ?_
      refine wq_b 174 100 d225_97 rfl (by decide) rfl (fun c97 => absurd c97 (fun y => y z)) (fun c97 => ?_)
      refine wq_l 101 d225_100 rfl rfl rfl rfl ?_
      refine wq_gi (ci := 10) (j := 3) 104 d225_101 rfl rfl rfl rfl ?_
      refine wq_k 106 106 d225_104 (by decide) rfl ?_
      refine wq_b 174 109 d225_106 rfl (by decide) rfl (fun c106 => ?_) (fun c106 => ?_)
      · -- pc 174
        have hno : ¬ pg_any (pt_T t M n) [6, 7, 8] c = true := fun q => by
          have q2 := hva.mpr (hall.mp q)
          first | (have y := c106; simp only [i_lt, i_le, i_eq, ne_eq, Int32.reduceToInt, b2_0, b2_1, decide_eq_true_eq, decide_eq_false_iff_not, Bool.not_eq_true, Bool.not_eq_false] at y; omega) | (have y := c115; simp only [i_lt, i_le, i_eq, ne_eq, Int32.reduceToInt, b2_0, b2_1, decide_eq_true_eq, decide_eq_false_iff_not, Bool.not_eq_true, Bool.not_eq_false] at y; omega)
        rw [if_neg hno] at hX
        exact hX σ h _ _ hT rp_Er hb
      · -- pc 109
        refine wq_l 110 d225_109 rfl rfl rfl rfl ?_
        refine wq_gi (ci := 10) (j := 3) 113 d225_110 rfl rfl rfl rfl ?_
        refine wq_k 115 109 d225_113 (by decide) rfl ?_
        refine wq_b 174 118 d225_115 rfl (by decide) rfl (fun c115 => ?_) (fun c115 => ?_)
        · -- pc 174
          have hno : ¬ pg_any (pt_T t M n) [6, 7, 8] c = true := fun q => by
            have q2 := hva.mpr (hall.mp q)
            first | (have y := c106; simp only [i_lt, i_le, i_eq, ne_eq, Int32.reduceToInt, b2_0, b2_1, decide_eq_true_eq, decide_eq_false_iff_not, Bool.not_eq_true, Bool.not_eq_false] at y; omega) | (have y := c115; simp only [i_lt, i_le, i_eq, ne_eq, Int32.reduceToInt, b2_0, b2_1, decide_eq_true_eq, decide_eq_false_iff_not, Bool.not_eq_true, Bool.not_eq_false] at y; omega)
          rw [if_neg hno] at hX
          exact hX σ h _ _ hT rp_Er hb
        · -- pc 118
          have hy := hva.mp (by have y := c106; have y2 := c115; simp only [i_lt, i_le, i_eq, ne_eq, Int32.reduceToInt, b2_0, b2_1, decide_eq_true_eq, decide_eq_false_iff_not, Bool.not_eq_true, Bool.not_eq_false] at y y2; omega)
          rw [if_pos (hall.mpr hy), pg_seq_c] at hX
          dsimp only at hX
          have hv4 : σ.1 10 3 - 106 = nI (pg_k (pt_T t M n) c - 6) := by rw [htk]; exact rx_vs _ k1 hy
          have h44 := (rp_anyl (hall.mpr hy) (by decide)).2
          obtain ⟨K, eK, er⟩ := pg_sect_k (pt_T t M n) c
          refine wq_l 119 d225_118 rfl rfl rfl rfl ?_
          refine wq_l 121 d225_119 rfl rfl rfl rfl ?_
          refine wq_k 122 4 d225_121 (by decide) rfl ?_
          refine wq_l 123 d225_122 rfl rfl rfl rfl ?_
          refine wq_gi (ci := 10) (j := 4) 126 d225_123 rfl rfl rfl rfl ?_
          refine wq_l 127 d225_126 rfl rfl rfl rfl ?_
          refine wq_gi (ci := 10) (j := 3) 130 d225_127 rfl rfl rfl rfl ?_
          refine wq_k 132 106 d225_130 (by decide) rfl ?_
          refine wq_a 133 d225_132 rfl rfl ?_
          rw [hv4]
          refine wq_v 136 [_, _, _, _] d225_133 rfl rfl m226 rfl rfl (Nat.le_of_ble_eq_true rfl) rfl (rp_mkin (to := nd) hN (by omega) ht hS (fun σ1 h1 m1 => ?_))
          refine wq_s 138 d225_136 rfl rfl (Nat.le_of_ble_eq_true rfl) rfl rfl ?_
          refine wq_l 139 d225_138 rfl rfl rfl rfl ?_
          refine wq_v 142 [] d225_139 rfl rfl m203 rfl rfl (Nat.le_of_ble_eq_true rfl) rfl (rp_go hN ⟨hlv, h44⟩ h1 (fun σ2 h2 k2 => ?_))
          refine rpl225i (s := s + 1) hN (by omega) K _ _ _ (rp_t0 h2) rp_li (fun _ => by omega) (fun σ3 h3 b1 b2 => ?_)
          refine wq_l 160 d225_159 rfl rfl rfl rfl ?_
          refine wq_gi (ci := 10) (j := 4) 163 d225_160 rfl rfl rfl rfl ?_
          refine wq_s 165 d225_163 rfl rfl (Nat.le_of_ble_eq_true rfl) rfl rfl ?_
          refine wq_l 166 d225_165 rfl rfl rfl rfl ?_
          refine wq_k 168 109 d225_166 (by decide) rfl ?_
          refine wq_v 171 [_] d225_168 rfl rfl m229 rfl rfl (Nat.le_of_ble_eq_true rfl) rfl (rp_want (k := 9) hN (by decide) (by decide) b1.1 (fun σ4 h4 k4 => ?_))
          refine wq_g 93 d225_171 (by decide) ?_
          have g4 := rp_Mn (k := 4) (p := pg_pl (pt_T t M n) c) (v := nI (pg_k (pt_T t M n) c - 6)) ht m1 (rp_Et rp_li (rp_Ek (h := rp_in h nd) k2) (rp_Ee (rp_Et rp_li b2 (rp_Ek k4)) (List.append_nil _))) (fun _ => ⟨rfl, hpl, rp_V0 (by decide)⟩)
          rw [List.nil_append] at g4
          have e6 : rp_E t M n σ h σ4 h3 nd (pg_sect (pt_T t M n) c).2 := by rw [er]; exact g4
          have h6 : rp_S t M n σ4 (pg_sect (pt_T t M n) c).1 h3 (s + 20) := by rw [er]; exact rp_Se h4 rfl (by omega)
          have hT6 := rp_t2 (D := 20) (pg_Lsect (pt_T t M n)) hS h6 e6
          refine ih _ _ _ _ _ hT6 (Nat.lt_of_lt_of_le ht e6.2.1) (fun y => by have := hl z; have := rp_t3 (pg_Lsect (pt_T t M n)) (pg_sect_n _ _) (rp_lv h6 y); omega) (fun y => ?_) (fun σ' h' bf a6 c1 c2 c3 => hX σ' h' bf a6 c1 (rp_Et ht e6 c2) c3)
          have e7 := rp_pl b1.1 (k4.2 y)
          have e8 := xs_bpx (T := pt_T t M n) (k := 9) (by decide) (rp_lv h4 y)
          rw [e7, er]
          exact congrArg nI e8.symm
    · exact dead (kk + 1) σ c h bf a6 hT z hX
