theorem d236_0 : decode prog_14_method_44_code 0 = .ok (.aload_n 0, 1) := by decide +kernel
theorem d236_1 : decode prog_14_method_44_code 1 = .ok (.iload_n 1, 1) := by decide +kernel
theorem d236_2 : decode prog_14_method_44_code 2 = .ok (.bipush 24, 2) := by decide +kernel
theorem d236_4 : decode prog_14_method_44_code 4 = .ok (.aload_n 0, 1) := by decide +kernel
theorem d236_5 : decode prog_14_method_44_code 5 = .ok (.getfield 151, 3) := by decide +kernel
theorem d236_8 : decode prog_14_method_44_code 8 = .ok (.iconst 0, 1) := by decide +kernel
theorem d236_9 : decode prog_14_method_44_code 9 = .ok (.invokevirtual 349, 3) := by decide +kernel
theorem d236_12 : decode prog_14_method_44_code 12 = .ok (.istore_n 2, 1) := by decide +kernel
theorem d236_13 : decode prog_14_method_44_code 13 = .ok (.aload_n 0, 1) := by decide +kernel
theorem d236_14 : decode prog_14_method_44_code 14 = .ok (.iload_n 2, 1) := by decide +kernel
theorem d236_15 : decode prog_14_method_44_code 15 = .ok (.invokevirtual 378, 3) := by decide +kernel
theorem d236_18 : decode prog_14_method_44_code 18 = .ok (.aload_n 0, 1) := by decide +kernel
theorem d236_19 : decode prog_14_method_44_code 19 = .ok (.getfield 135, 3) := by decide +kernel
theorem d236_22 : decode prog_14_method_44_code 22 = .ok (.ifCond .ne 48, 3) := by decide +kernel
theorem d236_25 : decode prog_14_method_44_code 25 = .ok (.aload_n 0, 1) := by decide +kernel
theorem d236_26 : decode prog_14_method_44_code 26 = .ok (.getfield 157, 3) := by decide +kernel
theorem d236_29 : decode prog_14_method_44_code 29 = .ok (.sipush 259, 3) := by decide +kernel
theorem d236_32 : decode prog_14_method_44_code 32 = .ok (.if_icmp .eq 38, 3) := by decide +kernel
theorem d236_35 : decode prog_14_method_44_code 35 = .ok (.aload_n 0, 1) := by decide +kernel
theorem d236_36 : decode prog_14_method_44_code 36 = .ok (.sipush 324, 3) := by decide +kernel
theorem d236_39 : decode prog_14_method_44_code 39 = .ok (.invokevirtual 331, 3) := by decide +kernel
theorem d236_42 : decode prog_14_method_44_code 42 = .ok (.ifCond .eq 20, 3) := by decide +kernel
theorem d236_45 : decode prog_14_method_44_code 45 = .ok (.aload_n 0, 1) := by decide +kernel
theorem d236_46 : decode prog_14_method_44_code 46 = .ok (.iload_n 2, 1) := by decide +kernel
theorem d236_47 : decode prog_14_method_44_code 47 = .ok (.bipush 29, 2) := by decide +kernel
theorem d236_49 : decode prog_14_method_44_code 49 = .ok (.aload_n 0, 1) := by decide +kernel
theorem d236_50 : decode prog_14_method_44_code 50 = .ok (.getfield 151, 3) := by decide +kernel
theorem d236_53 : decode prog_14_method_44_code 53 = .ok (.iconst 0, 1) := by decide +kernel
theorem d236_54 : decode prog_14_method_44_code 54 = .ok (.invokevirtual 349, 3) := by decide +kernel
theorem d236_57 : decode prog_14_method_44_code 57 = .ok (.pop, 1) := by decide +kernel
theorem d236_58 : decode prog_14_method_44_code 58 = .ok (.aload_n 0, 1) := by decide +kernel
theorem d236_59 : decode prog_14_method_44_code 59 = .ok (.invokevirtual 334, 3) := by decide +kernel
theorem d236_62 : decode prog_14_method_44_code 62 = .ok (.aload_n 0, 1) := by decide +kernel
theorem d236_63 : decode prog_14_method_44_code 63 = .ok (.iload_n 2, 1) := by decide +kernel
theorem d236_64 : decode prog_14_method_44_code 64 = .ok (.invokevirtual 378, 3) := by decide +kernel
theorem d236_67 : decode prog_14_method_44_code 67 = .ok (.goto (-49), 3) := by decide +kernel
theorem d236_70 : decode prog_14_method_44_code 70 = .ok (.aload_n 0, 1) := by decide +kernel
theorem d236_71 : decode prog_14_method_44_code 71 = .ok (.sipush 259, 3) := by decide +kernel
theorem d236_74 : decode prog_14_method_44_code 74 = .ok (.invokevirtual 340, 3) := by decide +kernel
theorem d236_77 : decode prog_14_method_44_code 77 = .ok (.return_, 1) := by decide +kernel
theorem m236 : pm_m 236 = some (⟨"TypeRulesModel", "row", "(I)V"⟩, prog_14_method_44_code, 3, none, 10, 1, 11) := rfl
theorem d235_0 : decode prog_14_method_43_code 0 = .ok (.aload_n 0, 1) := by decide +kernel
theorem d235_1 : decode prog_14_method_43_code 1 = .ok (.iload_n 1, 1) := by decide +kernel
theorem d235_2 : decode prog_14_method_43_code 2 = .ok (.bipush 22, 2) := by decide +kernel
theorem d235_4 : decode prog_14_method_43_code 4 = .ok (.aload_n 0, 1) := by decide +kernel
theorem d235_5 : decode prog_14_method_43_code 5 = .ok (.getfield 151, 3) := by decide +kernel
theorem d235_8 : decode prog_14_method_43_code 8 = .ok (.iconst 0, 1) := by decide +kernel
theorem d235_9 : decode prog_14_method_43_code 9 = .ok (.invokevirtual 349, 3) := by decide +kernel
theorem d235_12 : decode prog_14_method_43_code 12 = .ok (.istore_n 2, 1) := by decide +kernel
theorem d235_13 : decode prog_14_method_43_code 13 = .ok (.aload_n 0, 1) := by decide +kernel
theorem d235_14 : decode prog_14_method_43_code 14 = .ok (.invokevirtual 334, 3) := by decide +kernel
theorem d235_17 : decode prog_14_method_43_code 17 = .ok (.aload_n 0, 1) := by decide +kernel
theorem d235_18 : decode prog_14_method_43_code 18 = .ok (.sipush 139, 3) := by decide +kernel
theorem d235_21 : decode prog_14_method_43_code 21 = .ok (.invokevirtual 331, 3) := by decide +kernel
theorem d235_24 : decode prog_14_method_43_code 24 = .ok (.ifCond .eq 60, 3) := by decide +kernel
theorem d235_27 : decode prog_14_method_43_code 27 = .ok (.aload_n 0, 1) := by decide +kernel
theorem d235_28 : decode prog_14_method_43_code 28 = .ok (.iload_n 2, 1) := by decide +kernel
theorem d235_29 : decode prog_14_method_43_code 29 = .ok (.bipush 23, 2) := by decide +kernel
theorem d235_31 : decode prog_14_method_43_code 31 = .ok (.aload_n 0, 1) := by decide +kernel
theorem d235_32 : decode prog_14_method_43_code 32 = .ok (.getfield 151, 3) := by decide +kernel
theorem d235_35 : decode prog_14_method_43_code 35 = .ok (.iconst 0, 1) := by decide +kernel
theorem d235_36 : decode prog_14_method_43_code 36 = .ok (.invokevirtual 349, 3) := by decide +kernel
theorem d235_39 : decode prog_14_method_43_code 39 = .ok (.istore_n 3, 1) := by decide +kernel
theorem d235_40 : decode prog_14_method_43_code 40 = .ok (.aload_n 0, 1) := by decide +kernel
theorem d235_41 : decode prog_14_method_43_code 41 = .ok (.invokevirtual 334, 3) := by decide +kernel
theorem d235_44 : decode prog_14_method_43_code 44 = .ok (.aload_n 0, 1) := by decide +kernel
theorem d235_45 : decode prog_14_method_43_code 45 = .ok (.iload_n 3, 1) := by decide +kernel
theorem d235_46 : decode prog_14_method_43_code 46 = .ok (.invokevirtual 375, 3) := by decide +kernel
theorem d235_49 : decode prog_14_method_43_code 49 = .ok (.aload_n 0, 1) := by decide +kernel
theorem d235_50 : decode prog_14_method_43_code 50 = .ok (.getfield 135, 3) := by decide +kernel
theorem d235_53 : decode prog_14_method_43_code 53 = .ok (.ifCond .ne 21, 3) := by decide +kernel
theorem d235_56 : decode prog_14_method_43_code 56 = .ok (.aload_n 0, 1) := by decide +kernel
theorem d235_57 : decode prog_14_method_43_code 57 = .ok (.getfield 157, 3) := by decide +kernel
theorem d235_60 : decode prog_14_method_43_code 60 = .ok (.sipush 140, 3) := by decide +kernel
theorem d235_63 : decode prog_14_method_43_code 63 = .ok (.if_icmp .eq 11, 3) := by decide +kernel
theorem d235_66 : decode prog_14_method_43_code 66 = .ok (.aload_n 0, 1) := by decide +kernel
theorem d235_67 : decode prog_14_method_43_code 67 = .ok (.iload_n 3, 1) := by decide +kernel
theorem d235_68 : decode prog_14_method_43_code 68 = .ok (.invokevirtual 375, 3) := by decide +kernel
theorem d235_71 : decode prog_14_method_43_code 71 = .ok (.goto (-22), 3) := by decide +kernel
theorem d235_74 : decode prog_14_method_43_code 74 = .ok (.aload_n 0, 1) := by decide +kernel
theorem d235_75 : decode prog_14_method_43_code 75 = .ok (.sipush 140, 3) := by decide +kernel
theorem d235_78 : decode prog_14_method_43_code 78 = .ok (.invokevirtual 340, 3) := by decide +kernel
theorem d235_81 : decode prog_14_method_43_code 81 = .ok (.goto (-64), 3) := by decide +kernel
theorem d235_84 : decode prog_14_method_43_code 84 = .ok (.aload_n 0, 1) := by decide +kernel
theorem d235_85 : decode prog_14_method_43_code 85 = .ok (.sipush 138, 3) := by decide +kernel
theorem d235_88 : decode prog_14_method_43_code 88 = .ok (.invokevirtual 340, 3) := by decide +kernel
theorem d235_91 : decode prog_14_method_43_code 91 = .ok (.return_, 1) := by decide +kernel
theorem m235 : pm_m 235 = some (⟨"TypeRulesModel", "ladder", "(I)V"⟩, prog_14_method_43_code, 4, none, 10, 1, 11) := rfl
/-! rows, rungs -/
def xl_R (T : pg_T) (kk : Nat) : pg_P := pg_ite (pg_is T 68) (pg_seq (pg_leaf T 29 (fun _ => 0) pg_stp) (pg_cells T kk)) (pg_ite (pg_isc T) (pg_cells T kk) pg_nil)
theorem xl_c (T : pg_T) (kk : Nat) (c : pg_C) : pg_cells T (kk + 1) c = pg_seq (pg_cell T) (xl_R T kk) c := rfl
theorem xl_0 (T : pg_T) (kk : Nat) (c : pg_C) (h1 : pg_is T 68 c = false) (h2 : pg_isc T c = false) : xl_R T kk c = (c, []) := by
  unfold xl_R
  rw [xs_s3 _ _ _ _ h1, xs_s3 _ _ _ _ h2, pg_nil_c]
theorem xl_1 (T : pg_T) (kk : Nat) (c : pg_C) (h1 : pg_is T 68 c = true) : xl_R T (kk + 1) c = ((xl_R T kk (pg_cell T (pg_stp c)).1).1, [(29, pg_pl T c, 0, 1)] ++ ((pg_cell T (pg_stp c)).2 ++ (xl_R T kk (pg_cell T (pg_stp c)).1).2)) := by
  have e : ∀ c, pg_leaf T 29 (fun _ => 0) pg_stp c = (pg_stp c, [(29, pg_pl T c, 0, 1)]) := fun _ => rfl
  show pg_ite (pg_is T 68) (pg_seq (pg_leaf T 29 (fun _ => 0) pg_stp) (pg_cells T (kk + 1))) (pg_ite (pg_isc T) (pg_cells T (kk + 1)) pg_nil) c = _
  rw [xs_s2 _ _ _ _ h1]
  simp only [pg_seq_c, e, xl_c]
theorem xl_2 (T : pg_T) (kk : Nat) (c : pg_C) (h1 : pg_is T 68 c = false) (h2 : pg_isc T c = true) : xl_R T (kk + 1) c = ((xl_R T kk (pg_cell T c).1).1, (pg_cell T c).2 ++ (xl_R T kk (pg_cell T c).1).2) := by
  show pg_ite (pg_is T 68) (pg_seq (pg_leaf T 29 (fun _ => 0) pg_stp) (pg_cells T (kk + 1))) (pg_ite (pg_isc T) (pg_cells T (kk + 1)) pg_nil) c = _
  rw [xs_s3 _ _ _ _ h1, xs_s2 _ _ _ _ h2, xl_c, pg_seq_c]
theorem pg_gisc (T : pg_T) : pg_G T (pg_isc T) := pg_gany T (by decide)
/-- no cell begins here -/
theorem xl_no (T : pg_T) (c : pg_C) (h : pg_isc T c = false) : (pg_cell T c).1 = pg_stop c := by
  unfold pg_isc at h
  simp only [pg_any_c, pg_any_n, Bool.or_false, Bool.or_eq_false_iff] at h
  obtain ⟨h63, h66, h65, h41, h61, h62, h52⟩ := h
  have em : pg_mark T 63 66 65 c = 0 := by
    unfold pg_mark
    rw [if_neg (by rw [h63]; decide), if_neg (by rw [h66]; decide), if_neg (by rw [h65]; decide)]
  have es : pg_skm T 63 66 65 c = c := if_pos em
  unfold pg_cell
  rw [xs_s3 _ _ _ _ h61, xs_s3 _ _ _ _ h62, xs_s3 _ _ _ _ h52, pg_cont_c, es, pg_nout_c, xs_ef h41]
  show rp_nmc T (pg_stop c) = pg_stop c
  unfold rp_nmc
  rw [if_neg (by rw [pg_gis T (k := 59) (by decide) _ pg_stopd]; decide)]
theorem pg_cell_n (T : pg_T) (c : pg_C) : 1 ≤ (pg_cell T c).2.length := by
  unfold pg_cell
  simp only [pg_ite_c, pg_leaf_c]
  split
  · exact Nat.le_refl _
  · split
    · exact Nat.le_refl _
    · split
      · rw [pg_coil_c]; show 1 ≤ 2; omega
      · rw [pg_cont_c]; exact Nat.succ_le_succ (Nat.zero_le _)
theorem xs_fed {T : pg_T} {e : Nat} {c : pg_C} (he : e ≠ 46 ∧ e ≠ 45) (hd : pg_dead T c) : pg_deq c (xs_fe T e c) := by
  unfold xs_fe
  rw [if_neg (by rw [pg_gis T he c hd]; decide)]
  exact pg_fstop T c hd
theorem xl_57 {T : pg_T} {c : pg_C} (h : pg_is T 57 c = true) : pg_any T [63, 66, 65, 41, 61, 62, 52] c = false := by
  unfold pg_any
  rw [pg_isk h]
  decide
theorem pg_ss {c : pg_C} : pg_stop (pg_stop c) = pg_stop c := by
  have hs : (pg_stop c).2.1 ≠ 0 := by unfold pg_stop; dsimp only; split <;> omega
  unfold pg_stop at hs ⊢
  dsimp only at hs ⊢
  rw [if_neg hs]
theorem xl_i (T : pg_T) : pg_I (pg_cell T) := pg_iite (pg_ileaf (fun _ => pg_istp)) (pg_iite (pg_ileaf (fun _ => pg_istp)) (pg_iite (pg_inode (pg_iseq (pg_itok (fun c => by unfold pg_skm; split; exact pg_istp; exact Nat.le_trans pg_istp pg_istp)) (pg_iseq (pg_ileaf (fun _ => pg_iexp)) (pg_itok (fun _ => pg_iexp))))) (pg_inode (pg_iseq (pg_itok (fun c => by unfold pg_skm; split; exact Nat.le_refl _; exact pg_istp)) (pg_inout T)))))
theorem rpl236 {d : Nat} {Q : Option Value → pm_S → Prop} {t : Nat → Nat} {M n : Nat} {s nd : Nat} {a1 : Value} (hN : rp_n t M n) (hs : s ≤ 2600) : ∀ (kk : Nat) (σ : pm_S) (c : pg_C) (h : rp_H), rp_T2 t M n σ c h s 8 → nd < h.1 → (σ.1 10 6 = 0 → n ≤ c.1 + kk) → (∀ σ' h', rp_S t M n σ' (xs_fe (pt_T t M n) 57 (xl_R (pt_T t M n) kk c).1) h' (s + 8) → rp_E t M n σ h σ' h' nd (xl_R (pt_T t M n) kk c).2 → pm_WP pm_Y0 (pm_call pm_Y0 (d + 11)) 10 prog_14_method_44_code none Q 70 [.ref 10, a1, .int (nI nd)] [] σ') → pm_WP pm_Y0 (pm_call pm_Y0 (d + 11)) 10 prog_14_method_44_code none Q 18 [.ref 10, a1, .int (nI nd)] [] σ := by
  intro kk
  have dead : ∀ kk (σ : pm_S) (c : pg_C) (h : rp_H), rp_S t M n σ c h (s + 8) → ¬ σ.1 10 6 = 0 → (∀ σ' h', rp_S t M n σ' (xs_fe (pt_T t M n) 57 (xl_R (pt_T t M n) kk c).1) h' (s + 8) → rp_E t M n σ h σ' h' nd (xl_R (pt_T t M n) kk c).2 → pm_WP pm_Y0 (pm_call pm_Y0 (d + 11)) 10 prog_14_method_44_code none Q 70 [.ref 10, a1, .int (nI nd)] [] σ') → pm_WP pm_Y0 (pm_call pm_Y0 (d + 11)) 10 prog_14_method_44_code none Q 18 [.ref 10, a1, .int (nI nd)] [] σ := by
    intro kk σ c h hS z hX
    have dd := rp_dd hS z
    rw [xl_0 _ _ _ (pg_gis _ (by decide) _ dd) (pg_gisc _ _ dd)] at hX
    refine wq_l 19 d236_18 rfl rfl rfl rfl ?_
    refine wq_gi (ci := 10) (j := 6) 22 d236_19 rfl rfl rfl rfl ?_
    refine wq_b 70 25 d236_22 rfl (by decide) rfl (fun c22 => ?_) (fun c22 => absurd (z) c22)
    exact hX σ h (rp_Sd hS dd (xs_fed (by decide) dd) (Nat.le_refl _)) rp_Er
  induction kk with
  | zero =>
    intro σ c h hT ht hl hX
    by_cases z : σ.1 10 6 = 0
    · have := hl z
      have := hT.1.1.2.1
      omega
    · exact dead 0 σ c h hT.1 z hX
  | succ kk ih =>
    intro σ c h hT ht hl hX
    by_cases z : σ.1 10 6 = 0
    · have hS := rp_t1 hT z
      have hlv := rp_lv hS z
      have hpl := rp_pl hS z
      obtain ⟨k1, k2, k3⟩ := rp_k6 hN hS z
      have htk := rp_tk hS z
      have t57 : (σ.1 10 3 = 259 ↔ pg_is (pt_T t M n) 57 c = true) := by
        rw [htk]
        constructor
        · intro q
          rcases rx_ci _ k1 57 (by decide) (q.trans (by decide)) with y | y | y | y | y
          · unfold pg_is; rw [y]; rfl
          · exact absurd y k2
          · exact absurd y k3
          · exact absurd y (by decide)
          · exact absurd y (by decide)
        · intro q; rw [pg_isk q]; decide
      refine wq_l 19 d236_18 rfl rfl rfl rfl ?_
      refine wq_gi (ci := 10) (j := 6) 22 d236_19 rfl rfl rfl rfl ?_
      refine wq_b 70 25 d236_22 rfl (by decide) rfl (fun c22 => absurd c22 (fun y => y z)) (fun c22 => ?_)
      refine wq_l 26 d236_25 rfl rfl rfl rfl ?_
      refine wq_gi (ci := 10) (j := 3) 29 d236_26 rfl rfl rfl rfl ?_
      refine wq_k 32 259 d236_29 (by decide) rfl ?_
      refine wq_b 70 35 d236_32 rfl (by decide) rfl (fun c32 => ?_) (fun c32 => ?_)
      · -- pc 70
        have f57 := t57.mp c32
        rw [xl_0 _ _ _ (xs_isf f57 (by decide)) (by unfold pg_isc; exact xl_57 f57)] at hX
        refine hX σ h ?_ rp_Er
        unfold xs_fe
        rw [if_pos f57]
        exact hT.1
      · -- pc 35
        refine wq_l 36 d236_35 rfl rfl rfl rfl ?_
        refine wq_k 39 324 d236_36 (by decide) rfl ?_
        refine wq_v 42 [_] d236_39 rfl rfl m224 rfl rfl (Nat.le_of_ble_eq_true rfl) rfl (rp_is (k := 68) hN (by decide) (by decide) hS ?_)
        refine wq_b 62 45 d236_42 rfl (by decide) rfl (fun c42 => ?_) (fun c42 => ?_)
        · -- pc 62
          have f42 := b2z c42
          refine wq_l 63 d236_62 rfl rfl rfl rfl ?_
          refine wq_l 64 d236_63 rfl rfl rfl rfl ?_
          refine wq_v 67 [_] d236_64 rfl rfl m237 rfl rfl (Nat.le_of_ble_eq_true rfl) rfl (rp237 (s := s) hN (by omega) ht hS (fun σ3 h3' h3 e3 => ?_))
          refine wq_g 18 d236_67 (by decide) ?_
          cases qi : pg_isc (pt_T t M n) c with
          | true =>
            rw [xl_2 _ _ _ f42 qi] at hX
            have hT3 := rp_t2 (D := 8) (pg_Lcell (pt_T t M n)) hS (rp_Se h3 rfl (by omega)) e3
            refine ih _ _ _ hT3 (Nat.lt_of_lt_of_le ht e3.2.1) (fun y => by have := hl z; have := rp_t3 (pg_Lcell (pt_T t M n)) (pg_cell_n _ _) (rp_lv h3 y); omega) (fun σ' h' b1 b2 => hX σ' h' b1 (rp_Et ht e3 b2))
          | false =>
            have ec := xl_no _ _ qi
            have h3' : rp_S t M n σ3 (pg_stop c) h3' (s + 8) := rp_Se h3 ec (by omega)
            have hd3 := rp_d0 h3' pg_stopd
            refine dead (kk + 1) σ3 (pg_stop c) _ h3' hd3 (fun σ' h' b1 b2 => ?_)
            rw [xl_0 _ _ _ (pg_gis _ (by decide) _ pg_stopd) (pg_gisc _ _ pg_stopd)] at b1 b2
            rw [xl_0 _ _ _ f42 qi] at hX
            refine hX σ' h' ?_ (rp_Ed (rp_Wt (rp_We e3) (rp_We b2)) (fun y => hd3 (b2.2.2.1 y)))
            have e57 : pg_is (pt_T t M n) 57 c = false := by cases qq : pg_is (pt_T t M n) 57 c with | false => rfl | true => exact absurd (t57.mpr qq) c32
            unfold xs_fe at b1 ⊢
            rw [if_neg (by rw [e57]; decide)]
            rw [if_neg (by rw [pg_gis (pt_T t M n) (k := 57) (by decide) _ pg_stopd]; decide), pg_ss] at b1
            exact b1
        · -- pc 45
          have f42 := b2n c42
          skip
          refine wq_l 46 d236_45 rfl rfl rfl rfl ?_
          refine wq_l 47 d236_46 rfl rfl rfl rfl ?_
          refine wq_k 49 29 d236_47 (by decide) rfl ?_
          refine wq_l 50 d236_49 rfl rfl rfl rfl ?_
          refine wq_gi (ci := 10) (j := 4) 53 d236_50 rfl rfl rfl rfl ?_
          refine wq_k 54 0 d236_53 (by decide) rfl ?_
          refine wq_v 57 [_, _, _, _] d236_54 rfl rfl m226 rfl rfl (Nat.le_of_ble_eq_true rfl) rfl (rp_mkin (to := nd) hN (by omega) ht hS (fun σ1 h1 m1 => ?_))
          refine wq_a 58 d236_57 rfl rfl ?_
          refine wq_l 59 d236_58 rfl rfl rfl rfl ?_
          refine wq_v 62 [] d236_59 rfl rfl m203 rfl rfl (Nat.le_of_ble_eq_true rfl) rfl (rp_go hN (pg_isl f42 (by decide)) h1 (fun σ2 h2 k2 => ?_))
          refine wq_l 63 d236_62 rfl rfl rfl rfl ?_
          refine wq_l 64 d236_63 rfl rfl rfl rfl ?_
          refine wq_v 67 [_] d236_64 rfl rfl m237 rfl rfl (Nat.le_of_ble_eq_true rfl) rfl (rp237 (s := s + 1) hN (by omega) (Nat.lt_of_lt_of_le ht (Nat.le_succ _)) h2 (fun σ3 h3' h3 e3 => ?_))
          refine wq_g 18 d236_67 (by decide) ?_
          rw [xl_1 _ _ _ f42] at hX
          have g2 := rp_Mn (t := t) (M := M) (n := n) (k := 29) (p := pg_pl (pt_T t M n) c) (v := 0) ht m1 (rp_Ek (h := rp_in h nd) k2) (fun _ => ⟨rfl, hpl, rp_V0 (by decide)⟩)
          have g3 := rp_Et ht g2 e3
          have hb := hS.2.2
          have q1 := xe_ls hlv
          have i1 : (pg_stp c).1 ≤ (pg_cell (pt_T t M n) (pg_stp c)).1.1 := xl_i _ _
          refine ih _ _ _ ⟨rp_Se h3 rfl (by omega), fun y => ?_⟩ (Nat.lt_of_lt_of_le ht g3.2.1) (fun y => by have := hl z; omega) (fun σ' h' b1 b2 => hX σ' h' b1 (rp_Ee (rp_Et ht g3 b2) (List.append_assoc _ _ _)))
          have L1 := pg_Lcell (pt_T t M n) (pg_stp c) (rp_lv h3 y)
          have L2 := (g3.2.2.2.2 y).1
          rw [List.length_append, List.length_cons, List.length_nil] at L2
          omega
    · exact dead (kk + 1) σ c h hT.1 z hX
