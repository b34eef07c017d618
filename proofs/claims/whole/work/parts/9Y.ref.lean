theorem d201_0 : decode prog_14_method_70_code 0 = .ok (.aload_n 0, 1) := by decide +kernel
theorem d201_1 : decode prog_14_method_70_code 1 = .ok (.iconst 0, 1) := by decide +kernel
theorem d201_2 : decode prog_14_method_70_code 2 = .ok (.putfield 121, 3) := by decide +kernel
theorem d201_5 : decode prog_14_method_70_code 5 = .ok (.aload_n 0, 1) := by decide +kernel
theorem d201_6 : decode prog_14_method_70_code 6 = .ok (.iconst 0, 1) := by decide +kernel
theorem d201_7 : decode prog_14_method_70_code 7 = .ok (.putfield 343, 3) := by decide +kernel
theorem d201_10 : decode prog_14_method_70_code 10 = .ok (.aload_n 0, 1) := by decide +kernel
theorem d201_11 : decode prog_14_method_70_code 11 = .ok (.iconst 0, 1) := by decide +kernel
theorem d201_12 : decode prog_14_method_70_code 12 = .ok (.putfield 318, 3) := by decide +kernel
theorem d201_15 : decode prog_14_method_70_code 15 = .ok (.aload_n 0, 1) := by decide +kernel
theorem d201_16 : decode prog_14_method_70_code 16 = .ok (.iconst 0, 1) := by decide +kernel
theorem d201_17 : decode prog_14_method_70_code 17 = .ok (.putfield 321, 3) := by decide +kernel
theorem d201_20 : decode prog_14_method_70_code 20 = .ok (.aload_n 0, 1) := by decide +kernel
theorem d201_21 : decode prog_14_method_70_code 21 = .ok (.iconst 0, 1) := by decide +kernel
theorem d201_22 : decode prog_14_method_70_code 22 = .ok (.putfield 135, 3) := by decide +kernel
theorem d201_25 : decode prog_14_method_70_code 25 = .ok (.iconst 0, 1) := by decide +kernel
theorem d201_26 : decode prog_14_method_70_code 26 = .ok (.istore_n 1, 1) := by decide +kernel
theorem d201_27 : decode prog_14_method_70_code 27 = .ok (.iload_n 1, 1) := by decide +kernel
theorem d201_28 : decode prog_14_method_70_code 28 = .ok (.sipush 4096, 3) := by decide +kernel
theorem d201_31 : decode prog_14_method_70_code 31 = .ok (.if_icmp .ge 16, 3) := by decide +kernel
theorem d201_34 : decode prog_14_method_70_code 34 = .ok (.aload_n 0, 1) := by decide +kernel
theorem d201_35 : decode prog_14_method_70_code 35 = .ok (.getfield 26, 3) := by decide +kernel
theorem d201_38 : decode prog_14_method_70_code 38 = .ok (.iload_n 1, 1) := by decide +kernel
theorem d201_39 : decode prog_14_method_70_code 39 = .ok (.iconst (-1), 1) := by decide +kernel
theorem d201_40 : decode prog_14_method_70_code 40 = .ok (.iastore, 1) := by decide +kernel
theorem d201_41 : decode prog_14_method_70_code 41 = .ok (.iinc 1 1, 3) := by decide +kernel
theorem d201_44 : decode prog_14_method_70_code 44 = .ok (.goto (-17), 3) := by decide +kernel
theorem d201_47 : decode prog_14_method_70_code 47 = .ok (.aload_n 0, 1) := by decide +kernel
theorem d201_48 : decode prog_14_method_70_code 48 = .ok (.iconst 0, 1) := by decide +kernel
theorem d201_49 : decode prog_14_method_70_code 49 = .ok (.iconst 0, 1) := by decide +kernel
theorem d201_50 : decode prog_14_method_70_code 50 = .ok (.iconst 0, 1) := by decide +kernel
theorem d201_51 : decode prog_14_method_70_code 51 = .ok (.invokevirtual 324, 3) := by decide +kernel
theorem d201_54 : decode prog_14_method_70_code 54 = .ok (.istore_n 1, 1) := by decide +kernel
theorem d201_55 : decode prog_14_method_70_code 55 = .ok (.aload_n 0, 1) := by decide +kernel
theorem d201_56 : decode prog_14_method_70_code 56 = .ok (.invokevirtual 334, 3) := by decide +kernel
theorem d201_59 : decode prog_14_method_70_code 59 = .ok (.aload_n 0, 1) := by decide +kernel
theorem d201_60 : decode prog_14_method_70_code 60 = .ok (.getfield 135, 3) := by decide +kernel
theorem d201_63 : decode prog_14_method_70_code 63 = .ok (.ifCond .ne 52, 3) := by decide +kernel
theorem d201_66 : decode prog_14_method_70_code 66 = .ok (.aload_n 0, 1) := by decide +kernel
theorem d201_67 : decode prog_14_method_70_code 67 = .ok (.getfield 157, 3) := by decide +kernel
theorem d201_70 : decode prog_14_method_70_code 70 = .ok (.ifCond .eq 45, 3) := by decide +kernel
theorem d201_73 : decode prog_14_method_70_code 73 = .ok (.aload_n 0, 1) := by decide +kernel
theorem d201_74 : decode prog_14_method_70_code 74 = .ok (.bipush 100, 2) := by decide +kernel
theorem d201_76 : decode prog_14_method_70_code 76 = .ok (.invokevirtual 331, 3) := by decide +kernel
theorem d201_79 : decode prog_14_method_70_code 79 = .ok (.ifCond .ne 21, 3) := by decide +kernel
theorem d201_82 : decode prog_14_method_70_code 82 = .ok (.aload_n 0, 1) := by decide +kernel
theorem d201_83 : decode prog_14_method_70_code 83 = .ok (.bipush 102, 2) := by decide +kernel
theorem d201_85 : decode prog_14_method_70_code 85 = .ok (.invokevirtual 331, 3) := by decide +kernel
theorem d201_88 : decode prog_14_method_70_code 88 = .ok (.ifCond .ne 12, 3) := by decide +kernel
theorem d201_91 : decode prog_14_method_70_code 91 = .ok (.aload_n 0, 1) := by decide +kernel
theorem d201_92 : decode prog_14_method_70_code 92 = .ok (.bipush 104, 2) := by decide +kernel
theorem d201_94 : decode prog_14_method_70_code 94 = .ok (.invokevirtual 331, 3) := by decide +kernel
theorem d201_97 : decode prog_14_method_70_code 97 = .ok (.ifCond .eq 11, 3) := by decide +kernel
theorem d201_100 : decode prog_14_method_70_code 100 = .ok (.aload_n 0, 1) := by decide +kernel
theorem d201_101 : decode prog_14_method_70_code 101 = .ok (.iload_n 1, 1) := by decide +kernel
theorem d201_102 : decode prog_14_method_70_code 102 = .ok (.invokevirtual 471, 3) := by decide +kernel
theorem d201_105 : decode prog_14_method_70_code 105 = .ok (.goto (-46), 3) := by decide +kernel
theorem d201_108 : decode prog_14_method_70_code 108 = .ok (.aload_n 0, 1) := by decide +kernel
theorem d201_109 : decode prog_14_method_70_code 109 = .ok (.invokevirtual 337, 3) := by decide +kernel
theorem d201_112 : decode prog_14_method_70_code 112 = .ok (.goto (-53), 3) := by decide +kernel
theorem d201_115 : decode prog_14_method_70_code 115 = .ok (.return_, 1) := by decide +kernel
theorem m201 : pm_m 201 = some (⟨"TypeRulesModel", "read", "()V"⟩, prog_14_method_70_code, 2, none, 10, 0, 11) := rfl
/-! the text, read by the reference -/
theorem pg_block_n (T : pg_T) (c : pg_C) : 1 ≤ (pg_block T c).2.length := by
  obtain ⟨K, _, e⟩ := pg_block_k T c
  rw [e]
  exact Nat.succ_le_succ (Nat.zero_le _)
theorem rp_t2w {t : Nat → Nat} {M n : Nat} {σ σ' : pm_S} {c : pg_C} {h h' : rp_H} {s D to : Nat} (hf : pg_any (pt_T t M n) [0, 2, 4] c = true) (e : rp_S t M n σ c h s) (e' : rp_S t M n σ' (pg_block (pt_T t M n) c).1 h' (s + D)) (g : rp_Ew t M n σ h σ' h' to (pg_block (pt_T t M n) c).2) : rp_T2 t M n σ' (pg_block (pt_T t M n) c).1 h' s D ∧ (σ'.1 10 6 = 0 → c.1 + 1 ≤ (pg_block (pt_T t M n) c).1.1) := by
  have key : σ'.1 10 6 = 0 → _ := fun z => pg_Lblock c hf (rp_lv e' z)
  refine ⟨⟨e', fun z => ?_⟩, fun z => ?_⟩
  · have h1 := (g.2 z).1
    have h2 := key z
    have h3 := e.2.2
    omega
  · have h2 := key z
    have h3 := pg_block_n (pt_T t M n) c
    omega
theorem rpl201 {d : Nat} {Q : Option Value → pm_S → Prop} {t : Nat → Nat} {M n : Nat} (hN : rp_n t M n) : ∀ (kk : Nat) (σ : pm_S) (c : pg_C) (h : rp_H), rp_T2 t M n σ c h 1 60 → 0 < h.1 → (σ.1 10 6 = 0 → n ≤ c.1 + kk + 1) → (∀ σ' h', rp_S t M n σ' (xs_fe (pt_T t M n) 44 (pg_whl (pg_any (pt_T t M n) [0, 2, 4]) (pg_block (pt_T t M n)) kk c).1) h' 61 → rp_Ew t M n σ h σ' h' 0 (pg_whl (pg_any (pt_T t M n) [0, 2, 4]) (pg_block (pt_T t M n)) kk c).2 → Q none σ') → pm_WP pm_Y0 (pm_call pm_Y0 (d + 19)) 10 prog_14_method_70_code none Q 59 [.ref 10, .int (nI 0)] [] σ := by
  intro kk
  have dead : ∀ kk (σ : pm_S) (c : pg_C) (h : rp_H), rp_S t M n σ c h 61 → ¬ σ.1 10 6 = 0 → (∀ σ' h', rp_S t M n σ' (xs_fe (pt_T t M n) 44 (pg_whl (pg_any (pt_T t M n) [0, 2, 4]) (pg_block (pt_T t M n)) kk c).1) h' 61 → rp_Ew t M n σ h σ' h' 0 (pg_whl (pg_any (pt_T t M n) [0, 2, 4]) (pg_block (pt_T t M n)) kk c).2 → Q none σ') → pm_WP pm_Y0 (pm_call pm_Y0 (d + 19)) 10 prog_14_method_70_code none Q 59 [.ref 10, .int (nI 0)] [] σ := by
    intro kk σ c h hS z hX
    have dd := rp_dd hS z
    refine wq_l 60 d201_59 rfl rfl rfl rfl ?_
    refine wq_gi (ci := 10) (j := 6) 63 d201_60 rfl rfl rfl rfl ?_
    refine wq_b 115 66 d201_63 rfl (by decide) rfl (fun c63 => ?_) (fun c63 => absurd (z) c63)
    refine wq_rv d201_115 ?_
    exact hX σ h (rp_Sd hS dd (pg_deq_t (pg_dwhl (pg_gany _ (by decide)) kk c dd) (xs_fed (by decide) (pg_deq_d dd (pg_dwhl (pg_gany _ (by decide)) kk c dd)))) (Nat.le_refl _)) (rp_Ewl rp_Wwr z)
  have t44 : ∀ (σ : pm_S) (c : pg_C) (h : rp_H), rp_T2 t M n σ c h 1 60 → σ.1 10 6 = 0 → (σ.1 10 3 = 0 ↔ pg_is (pt_T t M n) 44 c = true) := fun σ c h hT z => by
    obtain ⟨k1, k2, k3⟩ := rp_k6 hN hT.1 z
    have htk := rp_tk hT.1 z
    rw [htk]
    constructor
    · intro q
      rcases rx_ci _ k1 44 (by decide) (q.trans (by decide)) with y | y | y | y | y
      · unfold pg_is; rw [y]; rfl
      · exact absurd y k2
      · exact absurd y k3
      · exact absurd y (by decide)
      · exact absurd y (by decide)
    · intro q; rw [pg_isk q]; decide
  have ende : ∀ kk (σ : pm_S) (c : pg_C) (h : rp_H), rp_T2 t M n σ c h 1 60 → σ.1 10 6 = 0 → pg_is (pt_T t M n) 44 c = true → (∀ σ' h', rp_S t M n σ' (xs_fe (pt_T t M n) 44 (pg_whl (pg_any (pt_T t M n) [0, 2, 4]) (pg_block (pt_T t M n)) kk c).1) h' 61 → rp_Ew t M n σ h σ' h' 0 (pg_whl (pg_any (pt_T t M n) [0, 2, 4]) (pg_block (pt_T t M n)) kk c).2 → Q none σ') → pm_WP pm_Y0 (pm_call pm_Y0 (d + 19)) 10 prog_14_method_70_code none Q 59 [.ref 10, .int (nI 0)] [] σ := by
    intro kk σ c h hT z q hX
    have h3 := (t44 σ c h hT z).mpr q
    have qa : pg_any (pt_T t M n) [0, 2, 4] c = false := by unfold pg_any; rw [pg_isk q]; decide
    have ew : pg_whl (pg_any (pt_T t M n) [0, 2, 4]) (pg_block (pt_T t M n)) kk c = (c, []) := by
      cases kk with
      | zero => rfl
      | succ kk => rw [pg_whl_c, if_neg (by rw [qa]; decide)]
    rw [ew] at hX
    refine wq_l 60 d201_59 rfl rfl rfl rfl ?_
    refine wq_gi (ci := 10) (j := 6) 63 d201_60 rfl rfl rfl rfl ?_
    refine wq_b 115 66 d201_63 rfl (by decide) rfl (fun c63 => absurd c63 (fun y => y z)) (fun c63 => ?_)
    refine wq_l 67 d201_66 rfl rfl rfl rfl ?_
    refine wq_gi (ci := 10) (j := 3) 70 d201_67 rfl rfl rfl rfl ?_
    refine wq_b 115 73 d201_70 rfl (by decide) rfl (fun c70 => ?_) (fun c70 => absurd (h3) c70)
    refine wq_rv d201_115 ?_
    refine hX σ h ?_ rp_Ewr
    unfold xs_fe
    rw [if_pos q]
    exact hT.1
  induction kk with
  | zero =>
    intro σ c h hT ht hl hX
    by_cases z : σ.1 10 6 = 0
    · have h1 := hl z
      have h2 := hT.1.1.2.1
      have e : c.1 = n - 1 := by omega
      have hlv := rp_lv hT.1 z
      have hk : (pt_T t M n).1 c.1 = lx_k t M lx_ns c.1 := if_pos h2
      have h44 : lx_k t M lx_ns c.1 = 44 := by
        rcases hN.2.2.2.2 with y | y
        · rw [← e] at y; exact absurd (hk.trans y) hlv.2
        · rw [← e] at y; exact y
      refine ende 0 σ c h hT z ?_ hX
      unfold pg_is
      rw [rp_kk hT.1 hlv, h44]
      rfl
    · exact dead 0 σ c h hT.1 z hX
  | succ kk ih =>
    intro σ c h hT ht hl hX
    by_cases z : σ.1 10 6 = 0
    · cases q44 : pg_is (pt_T t M n) 44 c with
      | true => exact ende (kk + 1) σ c h hT z q44 hX
      | false =>
        have hS := rp_t1 hT z
        have h3 : ¬ σ.1 10 3 = 0 := fun y => by
          have := (t44 σ c h hT z).mp y
          rw [q44] at this
          cases this
        rw [pg_whl_c] at hX
        refine wq_l 60 d201_59 rfl rfl rfl rfl ?_
        refine wq_gi (ci := 10) (j := 6) 63 d201_60 rfl rfl rfl rfl ?_
        refine wq_b 115 66 d201_63 rfl (by decide) rfl (fun c63 => absurd c63 (fun y => y z)) (fun c63 => ?_)
        refine wq_l 67 d201_66 rfl rfl rfl rfl ?_
        refine wq_gi (ci := 10) (j := 3) 70 d201_67 rfl rfl rfl rfl ?_
        refine wq_b 115 73 d201_70 rfl (by decide) rfl (fun c70 => absurd c70 (h3)) (fun c70 => ?_)
        refine wq_l 74 d201_73 rfl rfl rfl rfl ?_
        refine wq_k 76 100 d201_74 (by decide) rfl ?_
        refine wq_v 79 [_] d201_76 rfl rfl m224 rfl rfl (Nat.le_of_ble_eq_true rfl) rfl (rp_is (k := 0) hN (by decide) (by decide) hS ?_)
        refine wq_b 100 82 d201_79 rfl (by decide) rfl (fun c79 => ?_) (fun c79 => ?_)
        · -- pc 100
          have f79 := b2n c79
          have ha : pg_any (pt_T t M n) [0, 2, 4] c = true := by first | (simp only [pg_any_c, f79, Bool.true_or]; done) | (simp only [pg_any_c, f88, Bool.true_or, Bool.or_true]; done) | (simp only [pg_any_c, f97, Bool.true_or, Bool.or_true]; done)
          refine wq_l 101 d201_100 rfl rfl rfl rfl ?_
          refine wq_l 102 d201_101 rfl rfl rfl rfl ?_
          refine wq_v 105 [_] d201_102 rfl rfl m225 rfl rfl (Nat.le_of_ble_eq_true rfl) rfl (rp225 (s := 1) (rt := 0) hN (by omega) ht ha hS (fun σ4 h4' h4 e4 => ?_))
          refine wq_g 59 d201_105 (by decide) ?_
          rw [if_pos ha, pg_seq_c] at hX
          dsimp only at hX
          obtain ⟨hT4, hT5⟩ := rp_t2w (D := 60) ha hS (rp_Se h4 rfl (by omega)) e4
          exact ih _ _ _ hT4 (Nat.lt_of_lt_of_le ht e4.1.2.1) (fun y => by have := hl z; have := hT5 y; omega) (fun σ' h' b1 b2 => hX σ' h' b1 (rp_Ewt ht e4 b2))
        · -- pc 82
          have f79 := b2y c79
          refine wq_l 83 d201_82 rfl rfl rfl rfl ?_
          refine wq_k 85 102 d201_83 (by decide) rfl ?_
          refine wq_v 88 [_] d201_85 rfl rfl m224 rfl rfl (Nat.le_of_ble_eq_true rfl) rfl (rp_is (k := 2) hN (by decide) (by decide) hS ?_)
          refine wq_b 100 91 d201_88 rfl (by decide) rfl (fun c88 => ?_) (fun c88 => ?_)
          · -- pc 100
            have f88 := b2n c88
            have ha : pg_any (pt_T t M n) [0, 2, 4] c = true := by first | (simp only [pg_any_c, f79, Bool.true_or]; done) | (simp only [pg_any_c, f88, Bool.true_or, Bool.or_true]; done) | (simp only [pg_any_c, f97, Bool.true_or, Bool.or_true]; done)
            refine wq_l 101 d201_100 rfl rfl rfl rfl ?_
            refine wq_l 102 d201_101 rfl rfl rfl rfl ?_
            refine wq_v 105 [_] d201_102 rfl rfl m225 rfl rfl (Nat.le_of_ble_eq_true rfl) rfl (rp225 (s := 1) (rt := 0) hN (by omega) ht ha hS (fun σ4 h4' h4 e4 => ?_))
            refine wq_g 59 d201_105 (by decide) ?_
            rw [if_pos ha, pg_seq_c] at hX
            dsimp only at hX
            obtain ⟨hT4, hT5⟩ := rp_t2w (D := 60) ha hS (rp_Se h4 rfl (by omega)) e4
            exact ih _ _ _ hT4 (Nat.lt_of_lt_of_le ht e4.1.2.1) (fun y => by have := hl z; have := hT5 y; omega) (fun σ' h' b1 b2 => hX σ' h' b1 (rp_Ewt ht e4 b2))
          · -- pc 91
            have f88 := b2y c88
            refine wq_l 92 d201_91 rfl rfl rfl rfl ?_
            refine wq_k 94 104 d201_92 (by decide) rfl ?_
            refine wq_v 97 [_] d201_94 rfl rfl m224 rfl rfl (Nat.le_of_ble_eq_true rfl) rfl (rp_is (k := 4) hN (by decide) (by decide) hS ?_)
            refine wq_b 108 100 d201_97 rfl (by decide) rfl (fun c97 => ?_) (fun c97 => ?_)
            · -- pc 108
              have f97 := b2z c97
              refine wq_l 109 d201_108 rfl rfl rfl rfl ?_
              refine wq_v 112 [] d201_109 rfl rfl m230 rfl rfl (Nat.le_of_ble_eq_true rfl) rfl (rp_ref hN hS (fun σ4 h4 k4 => ?_))
              refine wq_g 59 d201_112 (by decide) ?_
              have qa : pg_any (pt_T t M n) [0, 2, 4] c = false := by simp only [pg_any_c, pg_any_n, f79, f88, f97, Bool.or_false]
              rw [if_neg (by rw [qa]; decide)] at hX
              have hd4 := rp_d0 h4 pg_stopd
              refine dead 0 σ4 (pg_stop c) h (rp_Se h4 rfl (by omega)) hd4 (fun σ' h' b1 b2 => hX σ' h' ?_ (rp_Ewl (rp_Wwt (rp_Eww (rp_Ek (t := t) (M := M) (n := n) (h := h) (to := 0) k4)).1 b2.1) (fun y => hd4 (b2.1.2.2.1 y))))
              have b1 : rp_S t M n σ' (xs_fe (pt_T t M n) 44 (pg_stop c)) h' 61 := b1
              unfold xs_fe at b1 ⊢
              rw [if_neg (by rw [q44]; decide)]
              rw [if_neg (by rw [pg_gis (pt_T t M n) (k := 44) (by decide) _ pg_stopd]; decide), pg_ss] at b1
              exact b1
            · -- pc 100
              have f97 := b2n c97
              have ha : pg_any (pt_T t M n) [0, 2, 4] c = true := by first | (simp only [pg_any_c, f79, Bool.true_or]; done) | (simp only [pg_any_c, f88, Bool.true_or, Bool.or_true]; done) | (simp only [pg_any_c, f97, Bool.true_or, Bool.or_true]; done)
              refine wq_l 101 d201_100 rfl rfl rfl rfl ?_
              refine wq_l 102 d201_101 rfl rfl rfl rfl ?_
              refine wq_v 105 [_] d201_102 rfl rfl m225 rfl rfl (Nat.le_of_ble_eq_true rfl) rfl (rp225 (s := 1) (rt := 0) hN (by omega) ht ha hS (fun σ4 h4' h4 e4 => ?_))
              refine wq_g 59 d201_105 (by decide) ?_
              rw [if_pos ha, pg_seq_c] at hX
              dsimp only at hX
              obtain ⟨hT4, hT5⟩ := rp_t2w (D := 60) ha hS (rp_Se h4 rfl (by omega)) e4
              exact ih _ _ _ hT4 (Nat.lt_of_lt_of_le ht e4.1.2.1) (fun y => by have := hl z; have := hT5 y; omega) (fun σ' h' b1 b2 => hX σ' h' b1 (rp_Ewt ht e4 b2))
    · exact dead (kk + 1) σ c h hT.1 z hX
/-- the chains are emptied -/
def xc_q (σ σ' : pm_S) : Prop := σ'.1 = σ.1 ∧ σ'.2.1 = σ.2.1 ∧ ∀ k, k ≠ 48 → σ'.2.2 k = σ.2.2 k
theorem xc_l {d : Nat} {Q : Option Value → pm_S → Prop} : ∀ (j k : Nat) (σ : pm_S), k + j = 4096 → (∀ i, i < k → σ.2.2 48 i = -1) → (∀ σ' x, xc_q σ σ' → (∀ i, i < 4096 → σ'.2.2 48 i = -1) → pm_WP pm_Y0 (pm_call pm_Y0 (d + 19)) 10 prog_14_method_70_code none Q 47 [.ref 10, .int x] [] σ') → pm_WP pm_Y0 (pm_call pm_Y0 (d + 19)) 10 prog_14_method_70_code none Q 27 [.ref 10, .int (nI k)] [] σ := by
  intro j
  induction j with
  | zero =>
    intro k σ hk h1 hX
    have ek := nI_toInt (n := k) (by omega)
    refine wq_l 28 d201_27 rfl rfl rfl rfl ?_
    refine wq_k 31 4096 d201_28 (by decide) rfl ?_
    refine wq_b 47 34 d201_31 rfl (by decide) rfl (fun c31 => ?_) (fun c31 => absurd (by simp only [i_lt, i_le, i_eq, ne_eq, Int32.reduceToInt, b2_0, b2_1, decide_eq_true_eq, decide_eq_false_iff_not, Bool.not_eq_true, Bool.not_eq_false, ek]; omega) c31)
    exact hX σ _ ⟨rfl, rfl, fun _ _ => rfl⟩ (fun i hi => h1 i (by omega))
  | succ j ih =>
    intro k σ hk h1 hX
    have ek := nI_toInt (n := k) (by omega)
    have ck := nI_clamp (n := k) (by omega)
    refine wq_l 28 d201_27 rfl rfl rfl rfl ?_
    refine wq_k 31 4096 d201_28 (by decide) rfl ?_
    refine wq_b 47 34 d201_31 rfl (by decide) rfl (fun c31 => absurd c31 (by simp only [i_lt, i_le, i_eq, ne_eq, Int32.reduceToInt, b2_0, b2_1, decide_eq_true_eq, decide_eq_false_iff_not, Bool.not_eq_true, Bool.not_eq_false, ek]; omega)) (fun c31 => ?_)
    refine wq_l 35 d201_34 rfl rfl rfl rfl ?_
    refine wq_gr (ci := 10) (j := 14) (q := 48) 38 d201_35 rfl rfl rfl rfl ?_
    refine wq_l 39 d201_38 rfl rfl rfl rfl ?_
    refine wq_k 40 (-1) d201_39 (by decide) rfl ?_
    refine wq_as 41 d201_40 rfl rfl rfl (vp_in_iff.mpr (by simp only [i_lt, i_le, i_eq, ne_eq, Int32.reduceToInt, b2_0, b2_1, decide_eq_true_eq, decide_eq_false_iff_not, Bool.not_eq_true, Bool.not_eq_false, ek] at * <;> omega)) ?_
    rw [ck, show pm_nr 0 (-1) = (-1 : Int32) from rfl]
    refine wq_i 44 d201_41 rfl rfl rfl ?_
    rw [show nI k + Int32.ofInt 1 = nI (k + 1) from (nI_succ k).symm]
    refine wq_g 27 d201_44 (by decide) ?_
    refine ih (k + 1) _ (by omega) (fun i hi => ?_) (fun σ' x q1 q2 => hX σ' x ⟨q1.1, q1.2.1, fun j hj => (q1.2.2 j hj).trans (pm_rne hj)⟩ q2)
    rw [pm_r22]
    by_cases q : i = k
    · rw [q, pk_us]
    · rw [pk_un q]; exact h1 i (by omega)
/-- the first token -/
theorem rf_go0 {d : Nat} {σ : pm_S} {Q : Option Value → pm_S → Prop} {t : Nat → Nat} {M n : Nat} (hn : pt_n t M n) (hT : rx_T σ t M) (h2 : σ.1 10 2 = 0) (h6 : σ.1 10 6 = 0) (h8 : σ.1 10 8 = 0) (hN : rx_N σ t M []) (hQ : ∀ σ', rq_F σ σ' → rf_T σ' t M n (0, 0, 0) → Q none σ') : pm_call pm_Y0 (d + 6) 203 [.ref 10] σ Q := by
  obtain ⟨n1, n2, n3, n4⟩ := hn
  have hk1 : (pt_T t M n).1 0 = lx_k t M lx_ns 0 := if_pos (by omega)
  refine sp203 (j := 0) hT (fun i hi => absurd hi (Nat.not_lt_zero _)) (by rw [h2, lx_at0]; rfl) h6 hN (fun σ' hF hA => hQ σ' hF ⟨?_, by show 0 < n; omega, fun z => ?_, fun z => ?_⟩)
  · obtain ⟨x1, x2, x3, x4⟩ := hT
    have e1 : σ'.1 10 1 = σ.1 10 1 := (hF.1 10 1).resolve_left (by omega)
    have e2 : σ'.2.2 43 = σ.2.2 43 := (hF.2.2 43).resolve_left (by omega)
    exact ⟨e1.trans x1, x2, fun i => by rw [e2]; exact x3 i, x4⟩
  · have z2 : lx_k t M lx_ns 0 ≠ 45 := fun y => z.2 (hk1.trans y)
    obtain ⟨a1, a2, a3, a4, a5, a6⟩ := hA.2 z2
    have e8 : σ'.1 10 8 = σ.1 10 8 := (hF.1 10 8).resolve_left (by omega)
    exact ⟨a1, a2, a3, a4, a5, a6, e8.trans h8, by decide⟩
  · have z2 : lx_k t M lx_ns 0 = 45 := by
      rcases z with y | y
      · exact absurd rfl y
      · exact hk1.symm.trans y
    obtain ⟨a1, a2⟩ := hA.1 z2
    have hv := lx_bad (t := t) (M := M) (s := lx_at t M lx_ns 0) z2
    have hv : 1 ≤ lx_v t M lx_ns 0 ∧ lx_v t M lx_ns 0 ≤ 5 := hv
    refine ⟨?_, ?_, a2⟩
    · rw [a1]
      unfold rf_f
      rw [if_pos (hk1.trans z2)]
      rfl
    · rw [a1]
      intro y
      have := (nI_eq (by omega) (by decide : (0 : Nat) < 2 ^ 31)).mp (y : nI _ = nI 0)
      omega
/-- what the reference has read -/
def rp_Z (t : Nat → Nat) (M n : Nat) (σ : pm_S) (h : rp_H) (l : List pg_N) : Prop := h.1 = 1 + l.length ∧ ∃ L : List hp_N, L.map (·.1) = (0, 0, 0, l.length + 1) :: l ∧ hp_R h.2 (rp_h t M n σ) h.1 L ∧ hp_c L ∧ hp_t L = [0] ∧ rh_K σ h.1 h.2 ∧ ∀ x ∈ L.tail, 1 ≤ x.2
theorem rp_Zm {t : Nat → Nat} {M n : Nat} {σ1 σ : pm_S} {h1 h : rp_H} {l : List pg_N} (hh : rp_h t M n σ1 0 (0, 0, 0, 0)) (e1 : h1.1 = 1) (e2 : h1.2 0 = []) (g : rp_Ew t M n σ1 h1 σ h 0 l) (hK : rh_K σ h.1 h.2) (z : σ.1 10 6 = 0) : rp_Z t M n σ h l := by
  obtain ⟨c1, L, c2, a1, a2, a3, a4, a5, a6, a7⟩ := g.2 z
  have hs : hp_sz (((0, 0, 0, l.length + 1), 0) : hp_N) = L.length + 1 := by rw [← c2, List.length_map]; rfl
  refine ⟨by omega, ((0, 0, 0, l.length + 1), 0) :: L, by rw [List.map_cons, c2], ⟨⟨by show 0 < h.1; omega, a4 0 (by omega) (0, 0, 0, l.length + 1) hh, ?_⟩, a5⟩, hp_cn a7 hs, hp_tn hs, hK, fun x hx => by have := a6 x hx; omega⟩
  rw [hs, Nat.add_sub_cancel, List.take_length, a3, e2]
  rfl
theorem xc_d {σ0 σ : pm_S} {b : Nat} {x : Int32} (w : rp_Dw σ0 σ) (hb : b = 2 ∨ b = 8 ∨ b = 9 ∨ b = 15 ∨ b = 6) : rp_Dw σ0 (pm_pi σ 10 b x) := by
  refine rp_Dwt w ⟨fun a c => ?_, fun _ => Or.inr rfl, fun _ => Or.inr rfl⟩
  by_cases h1 : a = 10
  · by_cases h2 : c = b
    · left; omega
    · right
      show (if a = 10 then (if c = b then x else σ.1 a c) else σ.1 a c) = _
      rw [if_pos h1, if_neg h2]
  · right
    show (if a = 10 then (if c = b then x else σ.1 a c) else σ.1 a c) = _
    rw [if_neg h1]
theorem xc_47 {d : Nat} {Q : Option Value → pm_S → Prop} {t : Nat → Nat} {M n K : Nat} {σ0 σ : pm_S} {x : Int32} (hN : rp_n t M n) (hT : rx_T σ0 t M) (f2 : σ0.1 10 2 = 0) (f8 : σ0.1 10 8 = 0) (f9 : σ0.1 10 9 = 0) (f15 : σ0.1 10 15 = 0) (f6 : σ0.1 10 6 = 0) (q1 : xc_q σ0 σ) (q2 : ∀ i, i < 4096 → σ.2.2 48 i = -1) (hQ : ∀ σ' h', rp_S t M n σ' (xs_fe (pt_T t M n) 44 (pg_whl (pg_any (pt_T t M n) [0, 2, 4]) (pg_block (pt_T t M n)) K (0, 0, 0)).1) h' 61 → (σ'.1 10 6 = 0 → rp_Z t M n σ' h' (pg_whl (pg_any (pt_T t M n) [0, 2, 4]) (pg_block (pt_T t M n)) K (0, 0, 0)).2) → rp_Dw σ0 σ' → Q none σ') (eM : K = 8192) : pm_WP pm_Y0 (pm_call pm_Y0 (d + 19)) 10 prog_14_method_70_code none Q 47 [.ref 10, .int x] [] σ := by
  obtain ⟨e1, e2, e3⟩ := q1
  have g15 : σ.1 10 15 = nI 0 := by rw [e1]; exact f15
  have hK0 : rh_K σ 0 (fun _ => []) := ⟨g15, Nat.zero_le _, ⟨fun a ha => absurd ha (Nat.not_lt_zero _), fun a ha => absurd ha (Nat.not_lt_zero _), fun a ha => absurd ha (Nat.not_lt_zero _)⟩, fun a ha => absurd ha (Nat.not_lt_zero _)⟩
  have hM := hN.1
  have hn2 := hN.2.2.2.1
  refine wq_l 48 d201_47 rfl rfl rfl rfl ?_
  refine wq_k 49 0 d201_48 (by decide) rfl ?_
  refine wq_k 50 0 d201_49 (by decide) rfl ?_
  refine wq_k 51 0 d201_50 (by decide) rfl ?_
  refine wq_v 54 [_, _, _] d201_51 rfl rfl m202 rfl rfl (Nat.le_of_ble_eq_true rfl) rfl (sp202 (m := 0) g15 (by decide) ?_)
  have hK1 := rh_mk (x := 0) (y := 0) (z := 0) hK0 (by decide)
  have r1 : ∀ b, b ≠ 15 → (rm_mk σ 0 0 0 0).1 10 b = σ0.1 10 b := fun b hb => (rm_r1 10 hb).trans (by rw [e1])
  have r2 : ∀ k, ¬ (49 ≤ k ∧ k ≤ 58) → k ≠ 48 → (rm_mk σ 0 0 0 0).2.2 k = σ0.2.2 k := fun k hk h48 => (rm_rk hk).trans (e3 k h48)
  have r48 : (rm_mk σ 0 0 0 0).2.2 48 = σ.2.2 48 := rm_rk (by omega)
  have rl : (rm_mk σ 0 0 0 0).2.1 = σ0.2.1 := e2
  have rm1 : rp_M σ 0 (rm_mk σ 0 0 0 0) 0 0 0 := rp_Kn
  have w1 : rp_Dw σ0 (rm_mk σ 0 0 0 0) := by
    refine rp_Dwt ⟨fun a b => Or.inr (by rw [e1]), fun k => Or.inr (by rw [e2]), fun k => ?_⟩ (rp_Dwd rm1.1)
    by_cases q : k = 48
    · left; omega
    · exact Or.inr (e3 k q)
  have fT1 : rx_T (rm_mk σ 0 0 0 0) t M := ⟨(r1 1 (by omega)).trans hT.1, hT.2.1, fun i => by rw [r2 43 (by omega) (by omega)]; exact hT.2.2.1 i, hT.2.2.2⟩
  have fN1 : rx_N (rm_mk σ 0 0 0 0) t M [] := by
    refine ⟨(r1 9 (by omega)).trans f9, Nat.zero_le _, fun i p hp => by simp at hp, fun b hb => ⟨[], ?_, fun x => ⟨fun hx => absurd hx List.not_mem_nil, fun ⟨p, hp, _⟩ => by simp at hp⟩⟩⟩
    show _ = (-1 : Int32)
    rw [r48]; exact q2 b hb
  refine wq_s 55 d201_54 rfl rfl (Nat.le_of_ble_eq_true rfl) rfl rfl ?_
  refine wq_l 56 d201_55 rfl rfl rfl rfl ?_
  refine wq_v 59 [] d201_56 rfl rfl m203 rfl rfl (Nat.le_of_ble_eq_true rfl) rfl (rf_go0 hN.2 fT1 ((r1 2 (by omega)).trans f2) ((r1 6 (by omega)).trans f6) ((r1 8 (by omega)).trans f8) fN1 (fun σ2 F2 T2 => ?_))
  have kk2 : rf_F (rm_mk σ 0 0 0 0) σ2 := rf_Fq F2
  have hK2 := rh_Kk kk2 hK1
  have hS2 : rp_S t M n σ2 (0, 0, 0) (0 + 1, hp_k (fun _ => []) 0 []) 1 := ⟨T2, hK2, by show 0 + 1 ≤ 2 * 0 + 1; omega⟩
  have hh2 : rp_h t M n σ2 0 (0, 0, 0, 0) := by
    unfold rp_h
    rw [(kk2.2.2 49).resolve_left (by omega), (kk2.2.2 50).resolve_left (by omega), (kk2.2.2 51).resolve_left (by omega)]
    exact ⟨rm1.2.2.1.1, rm1.2.2.1.2.1, by rw [rm1.2.2.1.2.2]; exact rp_V0 (by decide)⟩
  refine rpl201 hN K σ2 (0, 0, 0) _ (rp_t0 hS2) (Nat.lt_succ_self _) (fun _ => by show n ≤ 0 + K + 1; omega) (fun σ3 h3 b1 b2 => ?_)
  exact hQ σ3 h3 b1 (fun z => rp_Zm hh2 rfl rfl b2 b1.2.1 z) (rp_Dwt w1 (rp_Dwt (rp_Dwd (rp_Df kk2)) b2.1.1))
theorem rp201 {d : Nat} {Q : Option Value → pm_S → Prop} {t : Nat → Nat} {M n : Nat} {σ : pm_S} (hN : rp_n t M n) (hT : rx_T σ t M) (hQ : ∀ σ' h', rp_S t M n σ' (xs_fe (pt_T t M n) 44 (pg_whl (pg_any (pt_T t M n) [0, 2, 4]) (pg_block (pt_T t M n)) pg_M (0, 0, 0)).1) h' 61 → (σ'.1 10 6 = 0 → rp_Z t M n σ' h' (pg_whl (pg_any (pt_T t M n) [0, 2, 4]) (pg_block (pt_T t M n)) pg_M (0, 0, 0)).2) → rp_Dw σ σ' → Q none σ') : pm_call pm_Y0 (d + 20) 201 [.ref 10] σ Q := by
  obtain ⟨K, eK⟩ : ∃ K, K = pg_M := ⟨_, rfl⟩
  have eM : K = 8192 := eK
  rw [← eK] at hQ
  clear eK
  have n1 := hN.1
  have n2 := hN.2.2.2.1
  refine wq_m m201 (Nat.le_of_ble_eq_true rfl) (by decide) rfl ?_
  refine wq_l 1 d201_0 rfl rfl rfl rfl ?_
  refine wq_k 2 0 d201_1 (by decide) rfl ?_
  refine wq_pf (ci := 10) (j := 2) 5 d201_2 rfl rfl rfl ⟨rfl, rfl⟩ rfl ?_
  refine wq_l 6 d201_5 rfl rfl rfl rfl ?_
  refine wq_k 7 0 d201_6 (by decide) rfl ?_
  refine wq_pf (ci := 10) (j := 8) 10 d201_7 rfl rfl rfl ⟨rfl, rfl⟩ rfl ?_
  refine wq_l 11 d201_10 rfl rfl rfl rfl ?_
  refine wq_k 12 0 d201_11 (by decide) rfl ?_
  refine wq_pf (ci := 10) (j := 9) 15 d201_12 rfl rfl rfl ⟨rfl, rfl⟩ rfl ?_
  refine wq_l 16 d201_15 rfl rfl rfl rfl ?_
  refine wq_k 17 0 d201_16 (by decide) rfl ?_
  refine wq_pf (ci := 10) (j := 15) 20 d201_17 rfl rfl rfl ⟨rfl, rfl⟩ rfl ?_
  refine wq_l 21 d201_20 rfl rfl rfl rfl ?_
  refine wq_k 22 0 d201_21 (by decide) rfl ?_
  refine wq_pf (ci := 10) (j := 6) 25 d201_22 rfl rfl rfl ⟨rfl, rfl⟩ rfl ?_
  refine wq_k 26 0 d201_25 (by decide) rfl ?_
  refine wq_s 27 d201_26 rfl rfl (Nat.le_of_ble_eq_true rfl) rfl rfl ?_
  have w0 : rp_Dw σ (pm_pi (pm_pi (pm_pi (pm_pi (pm_pi σ 10 2 0) 10 8 0) 10 9 0) 10 15 0) 10 6 0) := xc_d (xc_d (xc_d (xc_d (xc_d rp_Dwr (by decide)) (by decide)) (by decide)) (by decide)) (by decide)
  have f2 : (pm_pi (pm_pi (pm_pi (pm_pi (pm_pi σ 10 2 0) 10 8 0) 10 9 0) 10 15 0) 10 6 0).1 10 2 = 0 := rfl
  have f8 : (pm_pi (pm_pi (pm_pi (pm_pi (pm_pi σ 10 2 0) 10 8 0) 10 9 0) 10 15 0) 10 6 0).1 10 8 = 0 := rfl
  have f9 : (pm_pi (pm_pi (pm_pi (pm_pi (pm_pi σ 10 2 0) 10 8 0) 10 9 0) 10 15 0) 10 6 0).1 10 9 = 0 := rfl
  have f15 : (pm_pi (pm_pi (pm_pi (pm_pi (pm_pi σ 10 2 0) 10 8 0) 10 9 0) 10 15 0) 10 6 0).1 10 15 = 0 := rfl
  have f6 : (pm_pi (pm_pi (pm_pi (pm_pi (pm_pi σ 10 2 0) 10 8 0) 10 9 0) 10 15 0) 10 6 0).1 10 6 = 0 := rfl
  have fT : rx_T (pm_pi (pm_pi (pm_pi (pm_pi (pm_pi σ 10 2 0) 10 8 0) 10 9 0) 10 15 0) 10 6 0) t M := hT
  generalize pm_pi (pm_pi (pm_pi (pm_pi (pm_pi σ 10 2 0) 10 8 0) 10 9 0) 10 15 0) 10 6 0 = σ0 at *
  refine xc_l 4096 0 σ0 rfl (fun i hi => absurd hi (Nat.not_lt_zero _)) (fun σ1 x q1 q2 => ?_)
  exact xc_47 hN fT f2 f8 f9 f15 f6 q1 q2 (fun σ2 h2 a1 a2 a3 => hQ σ2 h2 a1 a2 (rp_Dwt w0 a3)) eM
