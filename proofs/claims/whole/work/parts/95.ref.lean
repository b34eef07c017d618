theorem d224_0 : decode prog_14_method_31_code 0 = .ok (.aload_n 0, 1) := by decide +kernel
theorem d224_1 : decode prog_14_method_31_code 1 = .ok (.getfield 135, 3) := by decide +kernel
theorem d224_4 : decode prog_14_method_31_code 4 = .ok (.ifCond .ne 15, 3) := by decide +kernel
theorem d224_7 : decode prog_14_method_31_code 7 = .ok (.aload_n 0, 1) := by decide +kernel
theorem d224_8 : decode prog_14_method_31_code 8 = .ok (.getfield 157, 3) := by decide +kernel
theorem d224_11 : decode prog_14_method_31_code 11 = .ok (.iload_n 1, 1) := by decide +kernel
theorem d224_12 : decode prog_14_method_31_code 12 = .ok (.if_icmp .ne 7, 3) := by decide +kernel
theorem d224_15 : decode prog_14_method_31_code 15 = .ok (.iconst 1, 1) := by decide +kernel
theorem d224_16 : decode prog_14_method_31_code 16 = .ok (.goto 4, 3) := by decide +kernel
theorem d224_19 : decode prog_14_method_31_code 19 = .ok (.iconst 0, 1) := by decide +kernel
theorem d224_20 : decode prog_14_method_31_code 20 = .ok (.ireturn, 1) := by decide +kernel
theorem m224 : pm_m 224 = some (⟨"TypeRulesModel", "is", "(I)Z"⟩, prog_14_method_31_code, 2, (some FieldType.boolean), 10, 1, 11) := rfl
theorem d229_0 : decode prog_14_method_34_code 0 = .ok (.aload_n 0, 1) := by decide +kernel
theorem d229_1 : decode prog_14_method_34_code 1 = .ok (.iload_n 1, 1) := by decide +kernel
theorem d229_2 : decode prog_14_method_34_code 2 = .ok (.invokevirtual 331, 3) := by decide +kernel
theorem d229_5 : decode prog_14_method_34_code 5 = .ok (.ifCond .eq 10, 3) := by decide +kernel
theorem d229_8 : decode prog_14_method_34_code 8 = .ok (.aload_n 0, 1) := by decide +kernel
theorem d229_9 : decode prog_14_method_34_code 9 = .ok (.invokevirtual 334, 3) := by decide +kernel
theorem d229_12 : decode prog_14_method_34_code 12 = .ok (.goto 7, 3) := by decide +kernel
theorem d229_15 : decode prog_14_method_34_code 15 = .ok (.aload_n 0, 1) := by decide +kernel
theorem d229_16 : decode prog_14_method_34_code 16 = .ok (.invokevirtual 337, 3) := by decide +kernel
theorem d229_19 : decode prog_14_method_34_code 19 = .ok (.return_, 1) := by decide +kernel
theorem m229 : pm_m 229 = some (⟨"TypeRulesModel", "want", "(I)V"⟩, prog_14_method_34_code, 2, none, 10, 1, 11) := rfl
theorem d230_0 : decode prog_14_method_33_code 0 = .ok (.aload_n 0, 1) := by decide +kernel
theorem d230_1 : decode prog_14_method_33_code 1 = .ok (.bipush 6, 2) := by decide +kernel
theorem d230_3 : decode prog_14_method_33_code 3 = .ok (.aload_n 0, 1) := by decide +kernel
theorem d230_4 : decode prog_14_method_33_code 4 = .ok (.getfield 157, 3) := by decide +kernel
theorem d230_7 : decode prog_14_method_33_code 7 = .ok (.ifCond .ne 10, 3) := by decide +kernel
theorem d230_10 : decode prog_14_method_33_code 10 = .ok (.aload_n 0, 1) := by decide +kernel
theorem d230_11 : decode prog_14_method_33_code 11 = .ok (.getfield 114, 3) := by decide +kernel
theorem d230_14 : decode prog_14_method_33_code 14 = .ok (.goto 7, 3) := by decide +kernel
theorem d230_17 : decode prog_14_method_33_code 17 = .ok (.aload_n 0, 1) := by decide +kernel
theorem d230_18 : decode prog_14_method_33_code 18 = .ok (.getfield 151, 3) := by decide +kernel
theorem d230_21 : decode prog_14_method_33_code 21 = .ok (.invokevirtual 144, 3) := by decide +kernel
theorem d230_24 : decode prog_14_method_33_code 24 = .ok (.return_, 1) := by decide +kernel
theorem m230 : pm_m 230 = some (⟨"TypeRulesModel", "refuse", "()V"⟩, prog_14_method_33_code, 1, none, 10, 0, 11) := rfl
theorem d233_0 : decode prog_14_method_35_code 0 = .ok (.aload_n 0, 1) := by decide +kernel
theorem d233_1 : decode prog_14_method_35_code 1 = .ok (.iload_n 1, 1) := by decide +kernel
theorem d233_2 : decode prog_14_method_35_code 2 = .ok (.invokevirtual 331, 3) := by decide +kernel
theorem d233_5 : decode prog_14_method_35_code 5 = .ok (.istore_n 2, 1) := by decide +kernel
theorem d233_6 : decode prog_14_method_35_code 6 = .ok (.iload_n 2, 1) := by decide +kernel
theorem d233_7 : decode prog_14_method_35_code 7 = .ok (.ifCond .eq 7, 3) := by decide +kernel
theorem d233_10 : decode prog_14_method_35_code 10 = .ok (.aload_n 0, 1) := by decide +kernel
theorem d233_11 : decode prog_14_method_35_code 11 = .ok (.invokevirtual 334, 3) := by decide +kernel
theorem d233_14 : decode prog_14_method_35_code 14 = .ok (.iload_n 2, 1) := by decide +kernel
theorem d233_15 : decode prog_14_method_35_code 15 = .ok (.ireturn, 1) := by decide +kernel
theorem m233 : pm_m 233 = some (⟨"TypeRulesModel", "take", "(I)Z"⟩, prog_14_method_35_code, 3, (some FieldType.boolean), 10, 1, 11) := rfl
theorem d228_0 : decode prog_14_method_36_code 0 = .ok (.aload_n 0, 1) := by decide +kernel
theorem d228_1 : decode prog_14_method_36_code 1 = .ok (.getfield 154, 3) := by decide +kernel
theorem d228_4 : decode prog_14_method_36_code 4 = .ok (.istore_n 1, 1) := by decide +kernel
theorem d228_5 : decode prog_14_method_36_code 5 = .ok (.aload_n 0, 1) := by decide +kernel
theorem d228_6 : decode prog_14_method_36_code 6 = .ok (.iconst 1, 1) := by decide +kernel
theorem d228_7 : decode prog_14_method_36_code 7 = .ok (.invokevirtual 340, 3) := by decide +kernel
theorem d228_10 : decode prog_14_method_36_code 10 = .ok (.iload_n 1, 1) := by decide +kernel
theorem d228_11 : decode prog_14_method_36_code 11 = .ok (.ireturn, 1) := by decide +kernel
theorem m228 : pm_m 228 = some (⟨"TypeRulesModel", "wantName", "()I"⟩, prog_14_method_36_code, 2, (some FieldType.int), 10, 0, 11) := rfl
/-! is, want, take, refuse -/
theorem rx_ci : ∀ a, a < 69 → ∀ b, b < 69 → (rx_c a = rx_c b → a = b ∨ a = 45 ∨ a = 46 ∨ b = 45 ∨ b = 46) := by decide +kernel
theorem rf_k {t : Nat → Nat} {M n : Nat} (hM : M ≤ 8192) (hn : pt_n t M n) {j : Nat} (hj : j < n) : lx_k t M lx_ns j ≤ 68 ∧ lx_k t M lx_ns j ≠ 46 := by
  obtain ⟨n1, n2, n3, n4⟩ := hn
  by_cases h : j = n - 1
  · subst h; omega
  · have hb : lx_b t M j := fun i hi => n1 i (by omega)
    obtain ⟨j1, j2, j3⟩ := lx_at_J hM j hb
    obtain ⟨b1, b2⟩ := n1 j (by omega)
    have := lx_nx_e (t := t) (ns := (lx_at t M lx_ns j).2) hM j3 j1 b1 b2
    exact ⟨this.2.2.2.1, this.2.2.2.2.1⟩
theorem rf_end {t : Nat → Nat} {M n : Nat} (hM : M ≤ 8192) (hn : pt_n t M n) {j : Nat} (hj : j < n) (h : lx_k t M lx_ns j = 44) : lx_p t M lx_ns j = M := by
  have hb : lx_b t M j := fun i hi => hn.1 i (by omega)
  obtain ⟨j1, j2, j3⟩ := lx_at_J hM j hb
  have sb := lx_sk_b (t := t) (M := M) (M + 1 - (lx_at t M lx_ns j).1) (lx_at t M lx_ns j).1 j3
  have sb2 : (lx_sk t M (lx_at t M lx_ns j).1).1 ≤ M := sb.2
  cases hk : (lx_sk t M (lx_at t M lx_ns j).1).2 with
  | false => unfold lx_k at h; rw [lx_nx_no hk] at h; exact absurd h (by decide : ¬ (45 : Nat) = 44)
  | true =>
    unfold lx_k at h
    unfold lx_p
    rw [lx_nx_ok hk] at h ⊢
    have h : (lx_tok t M (lx_sk t M (lx_at t M lx_ns j).1).1 (lx_at t M lx_ns j).2).1.1 = 44 := h
    show (lx_sk t M (lx_at t M lx_ns j).1).1 = M
    rcases Nat.lt_or_ge (lx_sk t M (lx_at t M lx_ns j).1).1 M with z | z
    · exfalso
      generalize (lx_sk t M (lx_at t M lx_ns j).1).1 = q at h z
      generalize (lx_at t M lx_ns j).2 = ns at h
      unfold lx_tok at h
      rw [if_neg (by omega)] at h
      by_cases h2 : (t q = 84 ∨ t q = 116) ∧ lx_i t M (q + 1) = 35
      · rw [if_pos h2] at h
        have hq := lx_i_in (t := t) (M := M) (p := q + 1) (by rw [h2.2]; decide)
        have h : (lx_tim t M q).1 = 44 := h
        obtain ⟨v, e, g1, _⟩ := lx_tim_e hq (show (lx_tim t M q).1 ≠ 45 by omega)
        rw [g1] at h; exact absurd h (by decide : ¬ (42 : Nat) = 44)
      rw [if_neg h2] at h
      by_cases h3 : lx_dg (t q) = true
      · rw [if_pos h3] at h
        have h : (lx_num t M q).1 = 44 := h
        obtain ⟨v, e, g1, _⟩ := lx_num_e z h3 (show (lx_num t M q).1 ≠ 45 by omega)
        rw [g1] at h; exact absurd h (by decide : ¬ (42 : Nat) = 44)
      rw [if_neg h3] at h
      by_cases h4 : lx_np (t q) = true
      · rw [if_pos h4] at h; exact lx_nam_k h
      rw [if_neg h4] at h
      by_cases h5 : t q = 37
      · rw [if_pos h5] at h
        have h : (lx_pla t M q).1 = 44 := h
        obtain ⟨v, e, g1, _⟩ := lx_pla_e (show (lx_pla t M q).1 ≠ 45 by omega)
        rw [g1] at h; exact absurd h (by decide : ¬ (43 : Nat) = 44)
      · rw [if_neg h5] at h
        have h : (lx_sgn t M q).1 = 44 := h
        obtain ⟨k, e, g1, g2, _⟩ := lx_sgn_e z (show (lx_sgn t M q).1 ≠ 45 by omega)
        rw [g1] at h
        have h : k = 44 := h
        omega
    · omega
theorem rf_is {d : Nat} {σ : pm_S} {Q : Option Value → pm_S → Prop} {t : Nat → Nat} {M n : Nat} {c : pg_C} {k : Nat} (hM : M ≤ 8192) (hn : pt_n t M n) (hk : k ≤ 68 ∧ k ≠ 45 ∧ k ≠ 46) (hR : rf_T σ t M n c) (hQ : Q (some (.int (b2 (pg_is (pt_T t M n) k c)))) σ) : pm_call pm_Y0 (d + 1) 224 [.ref 10, .int (rx_c k)] σ Q := by
  obtain ⟨hT, hc, hL, hD⟩ := hR
  have hkk := rf_k hM hn hc
  have hTk : (pt_T t M n).1 c.1 = lx_k t M lx_ns c.1 := if_pos hc
  by_cases hd : pg_dead (pt_T t M n) c
  · obtain ⟨d1, d2, d3⟩ := hD hd
    rw [pg_gis _ ⟨hk.2.2, hk.2.1⟩ c hd] at hQ
    refine wq_m m224 (Nat.le_of_ble_eq_true rfl) (by decide) rfl ?_
    refine wq_l 1 d224_0 rfl rfl rfl rfl ?_
    refine wq_gi (ci := 10) (j := 6) 4 d224_1 rfl rfl rfl rfl ?_
    refine wq_b 19 7 d224_4 rfl (by decide) rfl (fun c4 => ?_) (fun c4 => absurd (d2) c4)
    refine wq_k 20 0 d224_19 (by decide) rfl ?_
    refine wq_ri d224_20 (rfl) ?_
    exact hQ
  · have hl := pg_ld.mp hd
    obtain ⟨l1, l2, l3, l4, l5, l6, l7, l8⟩ := hL hl
    have h45 : lx_k t M lx_ns c.1 ≠ 45 := fun z => hl.2 (hTk.trans z)
    have hkc : pg_k (pt_T t M n) c = lx_k t M lx_ns c.1 := (if_pos hl.1).trans hTk
    have hy : rx_c (lx_k t M lx_ns c.1) = rx_c k → Q (some (.int 1)) σ := fun z => by
      have e := rx_ci _ (by omega) k (by omega) z
      rw [show pg_is (pt_T t M n) k c = true from by unfold pg_is; rw [hkc]; simp; omega] at hQ
      exact hQ
    have hno : ¬ rx_c (lx_k t M lx_ns c.1) = rx_c k → Q (some (.int 0)) σ := fun z => by
      rw [show pg_is (pt_T t M n) k c = false from by unfold pg_is; rw [hkc]; simp; exact fun y => z (by rw [y])] at hQ
      exact hQ
    refine wq_m m224 (Nat.le_of_ble_eq_true rfl) (by decide) rfl ?_
    refine wq_l 1 d224_0 rfl rfl rfl rfl ?_
    refine wq_gi (ci := 10) (j := 6) 4 d224_1 rfl rfl rfl rfl ?_
    rw [l1]
    refine wq_b 19 7 d224_4 rfl (by decide) rfl (fun c4 => absurd c4 (fun z => z rfl)) (fun c4 => ?_)
    refine wq_l 8 d224_7 rfl rfl rfl rfl ?_
    refine wq_gi (ci := 10) (j := 3) 11 d224_8 rfl rfl rfl rfl ?_
    rw [l3]
    refine wq_l 12 d224_11 rfl rfl rfl rfl ?_
    refine wq_b 19 15 d224_12 rfl (by decide) rfl (fun c12 => ?_) (fun c12 => ?_)
    · -- pc 19
      refine wq_k 20 0 d224_19 (by decide) rfl ?_
      refine wq_ri d224_20 (rfl) ?_
      first | exact hy (Classical.not_not.mp c12) | exact hno c12
    · -- pc 15
      refine wq_k 16 1 d224_15 (by decide) rfl ?_
      refine wq_g 20 d224_16 (by decide) ?_
      refine wq_ri d224_20 (rfl) ?_
      first | exact hy (Classical.not_not.mp c12) | exact hno c12
theorem sp206n {d : Nat} {σ : pm_S} {Q : Option Value → pm_S → Prop} {x y : Int32} (h0 : ¬ σ.1 10 6 = 0) (hQ : Q none σ) : pm_call pm_Y0 (d + 1) 206 [.ref 10, .int x, .int y] σ Q := by
  refine wq_m m206 (Nat.le_of_ble_eq_true rfl) (by decide) rfl ?_
  refine wq_l 1 d206_0 rfl rfl rfl rfl ?_
  refine wq_gi (ci := 10) (j := 6) 4 d206_1 rfl rfl rfl rfl ?_
  refine wq_b 17 7 d206_4 rfl (by decide) rfl (fun c4 => ?_) (fun c4 => absurd (h0) c4)
  refine wq_rv d206_17 ?_
  exact hQ
theorem rf_ds {σ : pm_S} {t : Nat → Nat} {M n : Nat} {c c' : pg_C} (hR : rf_T σ t M n c) (hd : pg_dead (pt_T t M n) c) (hq : pg_deq c c') : rf_T σ t M n c' := by
  obtain ⟨hT, hc, hL, hD⟩ := hR
  obtain ⟨d1, d2, d3⟩ := hD hd
  have hd' := pg_deq_d hd hq
  refine ⟨hT, by rw [hq.1]; exact hc, fun z => absurd hd' (pg_ld.mpr z), fun _ => ⟨?_, d2, by rw [hq.1]; exact d3⟩⟩
  rw [d1]
  unfold rf_f
  rw [hq.1]
  by_cases h : (pt_T t M n).1 c.1 = 45
  · rw [if_pos h, if_pos h]
  · rw [if_neg h, if_neg h]
    rcases hq.2 with z | z
    · rw [z]
    · exact absurd (hd.resolve_right h) (fun y => y z.1)
theorem rf_refuse {d : Nat} {σ : pm_S} {Q : Option Value → pm_S → Prop} {t : Nat → Nat} {M n : Nat} {c : pg_C} (hM : M ≤ 8192) (hn : pt_n t M n) (hR : rf_T σ t M n c) (hQ : ∀ σ', rq_F σ σ' → rf_T σ' t M n (pg_stop c) → Q none σ') : pm_call pm_Y0 (d + 2) 230 [.ref 10] σ Q := by
  have hR' := hR
  obtain ⟨hT, hc, hL, hD⟩ := hR'
  have hkk := rf_k hM hn hc
  have hTk : (pt_T t M n).1 c.1 = lx_k t M lx_ns c.1 := if_pos hc
  by_cases hd : pg_dead (pt_T t M n) c
  · have hq := hQ σ rq_Fr (rf_ds hR hd (pg_fstop _ c hd))
    have d2 := (hD hd).2.1
    refine wq_m m230 (Nat.le_of_ble_eq_true rfl) (by decide) rfl ?_
    refine wq_l 1 d230_0 rfl rfl rfl rfl ?_
    refine wq_k 3 6 d230_1 (by decide) rfl ?_
    refine wq_l 4 d230_3 rfl rfl rfl rfl ?_
    refine wq_gi (ci := 10) (j := 3) 7 d230_4 rfl rfl rfl rfl ?_
    refine wq_b 17 10 d230_7 rfl (by decide) rfl (fun c7 => ?_) (fun c7 => ?_)
    · -- pc 17
      refine wq_l 18 d230_17 rfl rfl rfl rfl ?_
      refine wq_gi (ci := 10) (j := 4) 21 d230_18 rfl rfl rfl rfl ?_
      refine wq_v 24 [_, _] d230_21 rfl rfl m206 rfl rfl (Nat.le_of_ble_eq_true rfl) rfl (sp206n d2 ?_)
      refine wq_rv d230_24 ?_
      exact hq
    · -- pc 10
      refine wq_l 11 d230_10 rfl rfl rfl rfl ?_
      refine wq_gi (ci := 10) (j := 1) 14 d230_11 rfl rfl rfl rfl ?_
      refine wq_g 21 d230_14 (by decide) ?_
      refine wq_v 24 [_, _] d230_21 rfl rfl m206 rfl rfl (Nat.le_of_ble_eq_true rfl) rfl (sp206n d2 ?_)
      refine wq_rv d230_24 ?_
      exact hq
  · have hl := pg_ld.mp hd
    obtain ⟨l1, l2, l3, l4, l5, l6, l7, l8⟩ := hL hl
    have h45 : lx_k t M lx_ns c.1 ≠ 45 := fun z => hl.2 (hTk.trans z)
    have hs : (pg_stop c).2.1 = 1 := if_pos hl.1
    have hq : Q none (pm_pi (pm_pi σ 10 6 6) 10 7 (nI (lx_p t M lx_ns c.1))) := hQ _ (rq_Fp (rq_Fp rq_Fr (by decide)) (by decide)) ⟨hT, hc, fun z => absurd z.1 (by rw [hs]; decide), fun _ => ⟨by
      show (6 : Int32) = _
      unfold rf_f
      rw [show (pg_stop c).1 = c.1 from rfl, if_neg (fun z => h45 (hTk.symm.trans z)), hs]
      rfl, by show ¬ (6 : Int32) = 0; decide, rfl⟩⟩
    have h0c : rx_c (lx_k t M lx_ns c.1) = 0 ↔ lx_k t M lx_ns c.1 = 44 := ⟨fun z => by have := rx_ci _ (by omega) 44 (by decide) z; omega, fun z => by rw [z]; rfl⟩
    refine wq_m m230 (Nat.le_of_ble_eq_true rfl) (by decide) rfl ?_
    refine wq_l 1 d230_0 rfl rfl rfl rfl ?_
    refine wq_k 3 6 d230_1 (by decide) rfl ?_
    refine wq_l 4 d230_3 rfl rfl rfl rfl ?_
    refine wq_gi (ci := 10) (j := 3) 7 d230_4 rfl rfl rfl rfl ?_
    rw [l3]
    refine wq_b 17 10 d230_7 rfl (by decide) rfl (fun c7 => ?_) (fun c7 => ?_)
    · -- pc 17
      refine wq_l 18 d230_17 rfl rfl rfl rfl ?_
      refine wq_gi (ci := 10) (j := 4) 21 d230_18 rfl rfl rfl rfl ?_
      rw [l4]
      refine wq_v 24 [_, _] d230_21 rfl rfl m206 rfl rfl (Nat.le_of_ble_eq_true rfl) rfl (sp206 l1 ?_)
      refine wq_rv d230_24 ?_
      exact hq
    · -- pc 10
      have hz : lx_p t M lx_ns c.1 = M := rf_end hM hn hc (h0c.mp (Classical.not_not.mp c7))
      rw [hz] at hq
      refine wq_l 11 d230_10 rfl rfl rfl rfl ?_
      refine wq_gi (ci := 10) (j := 1) 14 d230_11 rfl rfl rfl rfl ?_
      rw [hT.1]
      refine wq_g 21 d230_14 (by decide) ?_
      refine wq_v 24 [_, _] d230_21 rfl rfl m206 rfl rfl (Nat.le_of_ble_eq_true rfl) rfl (sp206 l1 ?_)
      refine wq_rv d230_24 ?_
      exact hq
theorem rf_want {d : Nat} {σ : pm_S} {Q : Option Value → pm_S → Prop} {t : Nat → Nat} {M n : Nat} {c : pg_C} {k : Nat} (hM : M ≤ 8192) (hn : pt_n t M n) (hk : k ≤ 68 ∧ k ≠ 44 ∧ k ≠ 45 ∧ k ≠ 46) (hR : rf_T σ t M n c) (hQ : ∀ σ', rq_F σ σ' → rf_T σ' t M n (pg_exp (pt_T t M n) k c) → Q none σ') : pm_call pm_Y0 (d + 7) 229 [.ref 10, .int (rx_c k)] σ Q := by
  refine wq_m m229 (Nat.le_of_ble_eq_true rfl) (by decide) rfl ?_
  refine wq_l 1 d229_0 rfl rfl rfl rfl ?_
  refine wq_l 2 d229_1 rfl rfl rfl rfl ?_
  refine wq_v 5 [_] d229_2 rfl rfl m224 rfl rfl (Nat.le_of_ble_eq_true rfl) rfl (rf_is hM hn ⟨hk.1, hk.2.2.1, hk.2.2.2⟩ hR ?_)
  refine wq_b 15 8 d229_5 rfl (by decide) rfl (fun c5 => ?_) (fun c5 => ?_)
  · -- pc 15
    have hy : pg_is (pt_T t M n) k c = false := b2z c5
    refine wq_l 16 d229_15 rfl rfl rfl rfl ?_
    refine wq_v 19 [] d229_16 rfl rfl m230 rfl rfl (Nat.le_of_ble_eq_true rfl) rfl (rf_refuse hM hn hR (fun σ1 hF h1 => ?_))
    refine wq_rv d229_19 ?_
    first
      | exact hQ σ1 hF (by rw [show pg_exp (pt_T t M n) k c = (c.1 + 1, c.2.1, c.2.2) from if_pos hkT]; exact h1)
      | exact hQ σ1 hF (by rw [pg_exn hy]; exact h1)
  · -- pc 8
    have hy : pg_is (pt_T t M n) k c = true := b2n c5
    have hkT := pg_isk hy
    obtain ⟨y1, y2⟩ := pg_kT hkT hk.2.2.2
    have hc := hR.2.1
    have y3 : (pt_T t M n).1 c.1 = lx_k t M lx_ns c.1 := if_pos hc
    refine wq_l 9 d229_8 rfl rfl rfl rfl ?_
    refine wq_v 12 [] d229_9 rfl rfl m203 rfl rfl (Nat.le_of_ble_eq_true rfl) rfl (rf_go hn hR ⟨y1, by omega⟩ (by omega) (fun σ1 hF h1 => ?_))
    refine wq_g 19 d229_12 (by decide) ?_
    refine wq_rv d229_19 ?_
    first
      | exact hQ σ1 hF (by rw [show pg_exp (pt_T t M n) k c = (c.1 + 1, c.2.1, c.2.2) from if_pos hkT]; exact h1)
      | exact hQ σ1 hF (by rw [pg_exn hy]; exact h1)
theorem rf_take {d : Nat} {σ : pm_S} {Q : Option Value → pm_S → Prop} {t : Nat → Nat} {M n : Nat} {c : pg_C} {k : Nat} (hM : M ≤ 8192) (hn : pt_n t M n) (hk : k ≤ 68 ∧ k ≠ 44 ∧ k ≠ 45 ∧ k ≠ 46) (hR : rf_T σ t M n c) (hQ : ∀ σ', rq_F σ σ' → rf_T σ' t M n (if pg_is (pt_T t M n) k c then pg_stp c else c) → Q (some (.int (b2 (pg_is (pt_T t M n) k c)))) σ') : pm_call pm_Y0 (d + 7) 233 [.ref 10, .int (rx_c k)] σ Q := by
  refine wq_m m233 (Nat.le_of_ble_eq_true rfl) (by decide) rfl ?_
  refine wq_l 1 d233_0 rfl rfl rfl rfl ?_
  refine wq_l 2 d233_1 rfl rfl rfl rfl ?_
  refine wq_v 5 [_] d233_2 rfl rfl m224 rfl rfl (Nat.le_of_ble_eq_true rfl) rfl (rf_is hM hn ⟨hk.1, hk.2.2.1, hk.2.2.2⟩ hR ?_)
  refine wq_s 6 d233_5 rfl rfl (Nat.le_of_ble_eq_true rfl) rfl rfl ?_
  refine wq_l 7 d233_6 rfl rfl rfl rfl ?_
  refine wq_b 14 10 d233_7 rfl (by decide) rfl (fun c7 => ?_) (fun c7 => ?_)
  · -- pc 14
    refine wq_l 15 d233_14 rfl rfl rfl rfl ?_
    refine wq_ri d233_15 (b2_nar _) ?_
    first
      | exact hQ σ1 hF (by rw [if_pos hy, show pg_stp c = (c.1 + 1, c.2.1, c.2.2) from if_pos y1]; exact h1)
      | exact hQ σ rq_Fr (by rw [if_neg (by rw [b2z c7]; decide)]; exact hR)
  · -- pc 10
    have hy : pg_is (pt_T t M n) k c = true := b2n c7
    have hkT := pg_isk hy
    obtain ⟨y1, y2⟩ := pg_kT hkT hk.2.2.2
    have hc := hR.2.1
    have y3 : (pt_T t M n).1 c.1 = lx_k t M lx_ns c.1 := if_pos hc
    refine wq_l 11 d233_10 rfl rfl rfl rfl ?_
    refine wq_v 14 [] d233_11 rfl rfl m203 rfl rfl (Nat.le_of_ble_eq_true rfl) rfl (rf_go hn hR ⟨y1, by omega⟩ (by omega) (fun σ1 hF h1 => ?_))
    refine wq_l 15 d233_14 rfl rfl rfl rfl ?_
    refine wq_ri d233_15 (b2_nar _) ?_
    first
      | exact hQ σ1 hF (by rw [if_pos hy, show pg_stp c = (c.1 + 1, c.2.1, c.2.2) from if_pos y1]; exact h1)
      | exact hQ σ rq_Fr (by rw [if_neg (by rw [b2z c7]; decide)]; exact hR)
