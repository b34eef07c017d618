theorem xs_S51 {t : Nat → Nat} {M n : Nat} {σ : pm_S} {c : pg_C} {h : rp_H} {s : Nat} {f : Nat → Int32} (hS : rp_S t M n σ c h s) : rp_S t M n (pm_pr σ 51 f) c h s := by
  refine ⟨rp_Tm hS.1 (fun b hb => rfl) rfl (fun k hk => pm_rne (by omega)), ?_, hS.2.2⟩
  obtain ⟨k1, k2, k3, k4⟩ := hS.2.1
  refine ⟨k1, k2, ?_, ?_⟩
  · rw [pm_rne (by decide), pm_rne (by decide), pm_rne (by decide), pm_rne (by decide)]; exact k3
  · rw [pm_rne (by decide), pm_rne (by decide), pm_rne (by decide)]; exact k4
theorem rp259 {d : Nat} {Q : Option Value → pm_S → Prop} {t : Nat → Nat} {M n : Nat} {σ : pm_S} {h : rp_H} {c : pg_C} {s : Nat} {b k : Nat} (hN : rp_n t M n) (hs : s ≤ 2700) (hb : b < h.1) (hf : pg_is (pt_T t M n) 23 c = true) (h34 : σ.1 10 34 = nI k) (hk : k < 70) (hS : rp_S t M n σ c h s) (hQ : ∀ σa y z σ2 h2 b2, rp_M σ h.1 σa (nI 19) y z → (σ2.1 10 6 = 0 → y = nI (pg_pl (pt_T t M n) c) ∧ rp_V t M n 19 z (pg_v (pt_T t M n) (pg_opn c))) → xs_ob t M n σa (rp_in h b) h.1 h.1 (xs_fh (pt_T t M n) c).2 6 k σ2 h2 (xs_fh (pt_T t M n) c).1 b2 → rp_S t M n σ2 (xs_fh (pt_T t M n) c).1 h2 (s + 8) → Q none σ2) : pm_call pm_Y0 (d + 14) 259 [.ref 10, .int (nI b)] σ Q := by
  have hl := pg_isl hf (by decide)
  have z0 := rp_l0 hS hl.1
  have hpl := rp_pl hS z0
  have hlt := rp_lt hN hS (by omega)
  have eh := nI_toInt (n := h.1) (by omega)
  have ch := nI_clamp (n := h.1) (by omega)
  refine wq_m m259 (Nat.le_of_ble_eq_true rfl) (by decide) rfl ?_
  refine wq_l 1 d259_0 rfl rfl rfl rfl ?_
  refine wq_l 2 d259_1 rfl rfl rfl rfl ?_
  refine wq_k 4 19 d259_2 (by decide) rfl ?_
  refine wq_l 5 d259_4 rfl rfl rfl rfl ?_
  refine wq_gi (ci := 10) (j := 4) 8 d259_5 rfl rfl rfl rfl ?_
  refine wq_k 9 0 d259_8 (by decide) rfl ?_
  refine wq_v 12 [_, _, _, _] d259_9 rfl rfl m226 rfl rfl (Nat.le_of_ble_eq_true rfl) rfl (rp_mkin (to := b) hN (by omega) hb hS (fun σ1 h1 m1 => ?_))
  refine wq_s 13 d259_12 rfl rfl (Nat.le_of_ble_eq_true rfl) rfl rfl ?_
  refine wq_l 14 d259_13 rfl rfl rfl rfl ?_
  refine wq_v 17 [] d259_14 rfl rfl m248 rfl rfl (Nat.le_of_ble_eq_true rfl) rfl (rp_deep hN hl h1 (fun σ2 h2 k2 => ?_))
  refine wq_l 18 d259_17 rfl rfl rfl rfl ?_
  refine wq_gi (ci := 10) (j := 6) 21 d259_18 rfl rfl rfl rfl ?_
  refine wq_b 34 24 d259_21 rfl (by decide) rfl (fun c21 => ?_) (fun c21 => ?_)
  · -- pc 34
    have dd := rp_dd h2 c21
    have ma := rp_Mk m1 k2
    have ha : rp_S t M n σ2 (pg_exp (pt_T t M n) 41 (pg_opn c)) (rp_in h b) (s + 1) := rp_Sd h2 dd (pg_fexp _ (by decide) _ dd) (Nat.le_refl _)
    have hv : σ2.1 10 6 = 0 → rp_V t M n 19 0 (pg_v (pt_T t M n) (pg_opn c)) := fun w => absurd w c21
    have h34a : σ2.1 10 34 = nI k := (xs_d34 ma.1).trans h34
    refine wq_l 35 d259_34 rfl rfl rfl rfl ?_
    refine wq_k 38 400 d259_35 (by decide) rfl ?_
    refine wq_v 41 [_] d259_38 rfl rfl m229 rfl rfl (Nat.le_of_ble_eq_true rfl) rfl (rp_want (k := 47) hN (by decide) (by decide) ha (fun σ4 h4 k4 => ?_))
    refine wq_l 42 d259_41 rfl rfl rfl rfl ?_
    refine wq_l 43 d259_42 rfl rfl rfl rfl ?_
    refine wq_v 46 [_] d259_43 rfl rfl m260 rfl rfl (Nat.le_of_ble_eq_true rfl) rfl (rp260 (s := s + 1) (to := h.1) hN (by omega) rp_li h4 (fun σ5 h5' h5 e5 => ?_))
    refine wq_l 47 d259_46 rfl rfl rfl rfl ?_
    refine wq_k 49 124 d259_47 (by decide) rfl ?_
    refine wq_v 52 [_] d259_49 rfl rfl m229 rfl rfl (Nat.le_of_ble_eq_true rfl) rfl (rp_want (k := 24) hN (by decide) (by decide) h5 (fun σ6 h6 k6 => ?_))
    refine wq_l 53 d259_52 rfl rfl rfl rfl ?_
    refine wq_l 54 d259_53 rfl rfl rfl rfl ?_
    refine wq_v 57 [_] d259_54 rfl rfl m260 rfl rfl (Nat.le_of_ble_eq_true rfl) rfl (rp260 (s := s + 2) (to := h.1) hN (by omega) (Nat.lt_of_lt_of_le rp_li e5.2.1) h6 (fun σ7 h7' h7 e7 => ?_))
    have g7 := rp_Et rp_li (rp_Et rp_li (rp_Ek (h := rp_in h b) k4) e5) (rp_Et (Nat.lt_of_lt_of_le rp_li e5.2.1) (rp_Ek k6) e7)
    refine wq_l 58 d259_57 rfl rfl rfl rfl ?_
    refine wq_k 60 125 d259_58 (by decide) rfl ?_
    refine wq_v 63 [_] d259_60 rfl rfl m233 rfl rfl (Nat.le_of_ble_eq_true rfl) rfl (rp_take (k := 25) hN (by decide) (by decide) h7 (fun σ8 h8 k8 => ?_))
    refine wq_b 71 66 d259_63 rfl (by decide) rfl (fun c63 => ?_) (fun c63 => ?_)
    · -- pc 71
      have f63 := b2z c63; rw [f63] at h8
      rw [if_neg (by decide)] at h8
      have h9 := h8
      have g9 := rp_Et rp_li g7 (rp_Ek k8)
      refine wq_l 72 d259_71 rfl rfl rfl rfl ?_
      refine wq_gi (ci := 10) (j := 4) 75 d259_72 rfl rfl rfl rfl ?_
      refine wq_s 76 d259_75 rfl rfl (Nat.le_of_ble_eq_true rfl) rfl rfl ?_
      refine wq_l 77 d259_76 rfl rfl rfl rfl ?_
      refine wq_k 79 126 d259_77 (by decide) rfl ?_
      refine wq_v 82 [_] d259_79 rfl rfl m229 rfl rfl (Nat.le_of_ble_eq_true rfl) rfl (rp_want (k := 26) hN (by decide) (by decide) h9 (fun σA hA kA => ?_))
      have gA := rp_Et rp_li g9 (rp_Ek kA)
      refine wq_l 83 d259_82 rfl rfl rfl rfl ?_
      refine wq_k 85 6 d259_83 (by decide) rfl ?_
      refine wq_l 86 d259_85 rfl rfl rfl rfl ?_
      refine wq_l 87 d259_86 rfl rfl rfl rfl ?_
      refine wq_l 88 d259_87 rfl rfl rfl rfl ?_
      refine wq_k 90 11 d259_88 (by decide) rfl ?_
      refine wq_l 91 d259_90 rfl rfl rfl rfl ?_
      refine wq_k 92 0 d259_91 (by decide) rfl ?_
      refine wq_v 95 [_, _, _, _] d259_92 rfl rfl m226 rfl rfl (Nat.le_of_ble_eq_true rfl) rfl (rp_mkin (to := h.1) hN (by omega) (Nat.lt_of_lt_of_le rp_li gA.2.1) hA (fun σB hB mB => ?_))
      refine wq_v 98 [_, _, _] d259_95 rfl rfl m258 rfl rfl (Nat.le_of_ble_eq_true rfl) rfl (sp258 (k := k) (by rw [xs_d34 mB.1, xs_d34 gA.1]; exact h34a) hk ?_)
      refine wq_rv d259_98 ?_
      refine hQ _ _ _ _ _ _ ma (fun w => ⟨hpl, hv (gA.2.2.1 (mB.2.1 w))⟩) (xs_obm (w := 6) (rp_Eww (rp_Ee gA (by simp only [xs_fh_c, pg_seq_c, pg_tok_c, pg_ite_c, pg_nil_c, f63, if_true, if_false, Bool.false_eq_true, List.nil_append, List.append_nil, List.append_assoc]))) (xs_Nd gA.1) mB (fun w => ?_)) (rp_Se (xs_Sq xs_qp hB) (by simp only [xs_fh_c, pg_seq_c, pg_tok_c, pg_ite_c, pg_nil_c, f63, if_true, if_false, Bool.false_eq_true, List.nil_append, List.append_nil, List.append_assoc]) (by omega))
      have w2 := mB.2.1 w
      have ex := xs_bpx (T := pt_T t M n) (k := 26) (by decide) (rp_lv hA w2)
      have e3 := rp_pl h9 (kA.2 w2)
      rw [e3, ← ex]
      simp only [xs_fh_c, pg_seq_c, pg_tok_c, pg_ite_c, pg_nil_c, f63, if_true, if_false, Bool.false_eq_true, List.nil_append, List.append_nil, List.append_assoc]
    · -- pc 66
      have f63 := b2n c63; rw [f63] at h8
      rw [if_pos rfl] at h8
      refine wq_l 67 d259_66 rfl rfl rfl rfl ?_
      refine wq_l 68 d259_67 rfl rfl rfl rfl ?_
      refine wq_v 71 [_] d259_68 rfl rfl m260 rfl rfl (Nat.le_of_ble_eq_true rfl) rfl (rp260 (s := s + 3) (to := h.1) hN (by omega) (Nat.lt_of_lt_of_le rp_li g7.2.1) h8 (fun σ9 h9' h9 e9 => ?_))
      have g9 := rp_Et rp_li g7 (rp_Et (Nat.lt_of_lt_of_le rp_li g7.2.1) (rp_Ek k8) e9)
      have ez : xs_fh (pt_T t M n) c = xs_fh (pt_T t M n) c := rfl
      refine wq_l 72 d259_71 rfl rfl rfl rfl ?_
      refine wq_gi (ci := 10) (j := 4) 75 d259_72 rfl rfl rfl rfl ?_
      refine wq_s 76 d259_75 rfl rfl (Nat.le_of_ble_eq_true rfl) rfl rfl ?_
      refine wq_l 77 d259_76 rfl rfl rfl rfl ?_
      refine wq_k 79 126 d259_77 (by decide) rfl ?_
      refine wq_v 82 [_] d259_79 rfl rfl m229 rfl rfl (Nat.le_of_ble_eq_true rfl) rfl (rp_want (k := 26) hN (by decide) (by decide) h9 (fun σA hA kA => ?_))
      have gA := rp_Et rp_li g9 (rp_Ek kA)
      refine wq_l 83 d259_82 rfl rfl rfl rfl ?_
      refine wq_k 85 6 d259_83 (by decide) rfl ?_
      refine wq_l 86 d259_85 rfl rfl rfl rfl ?_
      refine wq_l 87 d259_86 rfl rfl rfl rfl ?_
      refine wq_l 88 d259_87 rfl rfl rfl rfl ?_
      refine wq_k 90 11 d259_88 (by decide) rfl ?_
      refine wq_l 91 d259_90 rfl rfl rfl rfl ?_
      refine wq_k 92 0 d259_91 (by decide) rfl ?_
      refine wq_v 95 [_, _, _, _] d259_92 rfl rfl m226 rfl rfl (Nat.le_of_ble_eq_true rfl) rfl (rp_mkin (to := h.1) hN (by omega) (Nat.lt_of_lt_of_le rp_li gA.2.1) hA (fun σB hB mB => ?_))
      refine wq_v 98 [_, _, _] d259_95 rfl rfl m258 rfl rfl (Nat.le_of_ble_eq_true rfl) rfl (sp258 (k := k) (by rw [xs_d34 mB.1, xs_d34 gA.1]; exact h34a) hk ?_)
      refine wq_rv d259_98 ?_
      refine hQ _ _ _ _ _ _ ma (fun w => ⟨hpl, hv (gA.2.2.1 (mB.2.1 w))⟩) (xs_obm (w := 6) (rp_Eww (rp_Ee gA (by simp only [xs_fh_c, pg_seq_c, pg_tok_c, pg_ite_c, pg_nil_c, f63, if_true, if_false, Bool.false_eq_true, List.nil_append, List.append_nil, List.append_assoc]))) (xs_Nd gA.1) mB (fun w => ?_)) (rp_Se (xs_Sq xs_qp hB) (by simp only [xs_fh_c, pg_seq_c, pg_tok_c, pg_ite_c, pg_nil_c, f63, if_true, if_false, Bool.false_eq_true, List.nil_append, List.append_nil, List.append_assoc]) (by omega))
      have w2 := mB.2.1 w
      have ex := xs_bpx (T := pt_T t M n) (k := 26) (by decide) (rp_lv hA w2)
      have e3 := rp_pl h9 (kA.2 w2)
      rw [e3, ← ex]
      simp only [xs_fh_c, pg_seq_c, pg_tok_c, pg_ite_c, pg_nil_c, f63, if_true, if_false, Bool.false_eq_true, List.nil_append, List.append_nil, List.append_assoc]
  · -- pc 24
    skip
    refine wq_l 25 d259_24 rfl rfl rfl rfl ?_
    refine wq_gr (ci := 10) (j := 18) (q := 51) 28 d259_25 rfl rfl rfl rfl ?_
    refine wq_l 29 d259_28 rfl rfl rfl rfl ?_
    refine wq_l 30 d259_29 rfl rfl rfl rfl ?_
    refine wq_v 33 [] d259_30 rfl rfl m228 rfl rfl (Nat.le_of_ble_eq_true rfl) rfl (rp_wn hN h2 (fun σ3 h3 k3 => ?_))
    refine wq_as 34 d259_33 rfl rfl rfl (vp_in_iff.mpr (by simp only [i_lt, i_le, i_eq, ne_eq, Int32.reduceToInt, b2_0, b2_1, decide_eq_true_eq, decide_eq_false_iff_not, Bool.not_eq_true, Bool.not_eq_false, eh] at * <;> omega)) ?_
    rw [ch, show pm_nr 0 (σ2.1 10 5) = σ2.1 10 5 from rfl]
    have ma := rp_Mw (w := σ2.1 10 5) (rp_Mk (rp_Mk m1 k2) k3)
    have ha := xs_S51 (f := upd (σ3.2.2 51) h.1 (σ2.1 10 5)) h3
    have hv : (pm_pr σ3 51 (upd (σ3.2.2 51) h.1 (σ2.1 10 5))).1 10 6 = 0 → rp_V t M n 19 (σ2.1 10 5) (pg_v (pt_T t M n) (pg_opn c)) := fun w => rp_nm (by decide) h2 h3 w
    have h34a : (pm_pr σ3 51 (upd (σ3.2.2 51) h.1 (σ2.1 10 5))).1 10 34 = nI k := (xs_d34 ma.1).trans h34
    generalize pm_pr σ3 51 (upd (σ3.2.2 51) h.1 (σ2.1 10 5)) = σa at *
    generalize σ2.1 10 5 = va at *
    refine wq_l 35 d259_34 rfl rfl rfl rfl ?_
    refine wq_k 38 400 d259_35 (by decide) rfl ?_
    refine wq_v 41 [_] d259_38 rfl rfl m229 rfl rfl (Nat.le_of_ble_eq_true rfl) rfl (rp_want (k := 47) hN (by decide) (by decide) ha (fun σ4 h4 k4 => ?_))
    refine wq_l 42 d259_41 rfl rfl rfl rfl ?_
    refine wq_l 43 d259_42 rfl rfl rfl rfl ?_
    refine wq_v 46 [_] d259_43 rfl rfl m260 rfl rfl (Nat.le_of_ble_eq_true rfl) rfl (rp260 (s := s + 1) (to := h.1) hN (by omega) rp_li h4 (fun σ5 h5' h5 e5 => ?_))
    refine wq_l 47 d259_46 rfl rfl rfl rfl ?_
    refine wq_k 49 124 d259_47 (by decide) rfl ?_
    refine wq_v 52 [_] d259_49 rfl rfl m229 rfl rfl (Nat.le_of_ble_eq_true rfl) rfl (rp_want (k := 24) hN (by decide) (by decide) h5 (fun σ6 h6 k6 => ?_))
    refine wq_l 53 d259_52 rfl rfl rfl rfl ?_
    refine wq_l 54 d259_53 rfl rfl rfl rfl ?_
    refine wq_v 57 [_] d259_54 rfl rfl m260 rfl rfl (Nat.le_of_ble_eq_true rfl) rfl (rp260 (s := s + 2) (to := h.1) hN (by omega) (Nat.lt_of_lt_of_le rp_li e5.2.1) h6 (fun σ7 h7' h7 e7 => ?_))
    have g7 := rp_Et rp_li (rp_Et rp_li (rp_Ek (h := rp_in h b) k4) e5) (rp_Et (Nat.lt_of_lt_of_le rp_li e5.2.1) (rp_Ek k6) e7)
    refine wq_l 58 d259_57 rfl rfl rfl rfl ?_
    refine wq_k 60 125 d259_58 (by decide) rfl ?_
    refine wq_v 63 [_] d259_60 rfl rfl m233 rfl rfl (Nat.le_of_ble_eq_true rfl) rfl (rp_take (k := 25) hN (by decide) (by decide) h7 (fun σ8 h8 k8 => ?_))
    refine wq_b 71 66 d259_63 rfl (by decide) rfl (fun c63 => ?_) (fun c63 => ?_)
    · -- pc 71
      have f63 := b2z c63; rw [f63] at h8
      rw [if_neg (by decide)] at h8
      have h9 := h8
      have g9 := rp_Et rp_li g7 (rp_Ek k8)
      refine wq_l 72 d259_71 rfl rfl rfl rfl ?_
      refine wq_gi (ci := 10) (j := 4) 75 d259_72 rfl rfl rfl rfl ?_
      refine wq_s 76 d259_75 rfl rfl (Nat.le_of_ble_eq_true rfl) rfl rfl ?_
      refine wq_l 77 d259_76 rfl rfl rfl rfl ?_
      refine wq_k 79 126 d259_77 (by decide) rfl ?_
      refine wq_v 82 [_] d259_79 rfl rfl m229 rfl rfl (Nat.le_of_ble_eq_true rfl) rfl (rp_want (k := 26) hN (by decide) (by decide) h9 (fun σA hA kA => ?_))
      have gA := rp_Et rp_li g9 (rp_Ek kA)
      refine wq_l 83 d259_82 rfl rfl rfl rfl ?_
      refine wq_k 85 6 d259_83 (by decide) rfl ?_
      refine wq_l 86 d259_85 rfl rfl rfl rfl ?_
      refine wq_l 87 d259_86 rfl rfl rfl rfl ?_
      refine wq_l 88 d259_87 rfl rfl rfl rfl ?_
      refine wq_k 90 11 d259_88 (by decide) rfl ?_
      refine wq_l 91 d259_90 rfl rfl rfl rfl ?_
      refine wq_k 92 0 d259_91 (by decide) rfl ?_
      refine wq_v 95 [_, _, _, _] d259_92 rfl rfl m226 rfl rfl (Nat.le_of_ble_eq_true rfl) rfl (rp_mkin (to := h.1) hN (by omega) (Nat.lt_of_lt_of_le rp_li gA.2.1) hA (fun σB hB mB => ?_))
      refine wq_v 98 [_, _, _] d259_95 rfl rfl m258 rfl rfl (Nat.le_of_ble_eq_true rfl) rfl (sp258 (k := k) (by rw [xs_d34 mB.1, xs_d34 gA.1]; exact h34a) hk ?_)
      refine wq_rv d259_98 ?_
      refine hQ _ _ _ _ _ _ ma (fun w => ⟨hpl, hv (gA.2.2.1 (mB.2.1 w))⟩) (xs_obm (w := 6) (rp_Eww (rp_Ee gA (by simp only [xs_fh_c, pg_seq_c, pg_tok_c, pg_ite_c, pg_nil_c, f63, if_true, if_false, Bool.false_eq_true, List.nil_append, List.append_nil, List.append_assoc]))) (xs_Nd gA.1) mB (fun w => ?_)) (rp_Se (xs_Sq xs_qp hB) (by simp only [xs_fh_c, pg_seq_c, pg_tok_c, pg_ite_c, pg_nil_c, f63, if_true, if_false, Bool.false_eq_true, List.nil_append, List.append_nil, List.append_assoc]) (by omega))
      have w2 := mB.2.1 w
      have ex := xs_bpx (T := pt_T t M n) (k := 26) (by decide) (rp_lv hA w2)
      have e3 := rp_pl h9 (kA.2 w2)
      rw [e3, ← ex]
      simp only [xs_fh_c, pg_seq_c, pg_tok_c, pg_ite_c, pg_nil_c, f63, if_true, if_false, Bool.false_eq_true, List.nil_append, List.append_nil, List.append_assoc]
    · -- pc 66
      have f63 := b2n c63; rw [f63] at h8
      rw [if_pos rfl] at h8
      refine wq_l 67 d259_66 rfl rfl rfl rfl ?_
      refine wq_l 68 d259_67 rfl rfl rfl rfl ?_
      refine wq_v 71 [_] d259_68 rfl rfl m260 rfl rfl (Nat.le_of_ble_eq_true rfl) rfl (rp260 (s := s + 3) (to := h.1) hN (by omega) (Nat.lt_of_lt_of_le rp_li g7.2.1) h8 (fun σ9 h9' h9 e9 => ?_))
      have g9 := rp_Et rp_li g7 (rp_Et (Nat.lt_of_lt_of_le rp_li g7.2.1) (rp_Ek k8) e9)
      have ez : xs_fh (pt_T t M n) c = xs_fh (pt_T t M n) c := rfl
      refine wq_l 72 d259_71 rfl rfl rfl rfl ?_
      refine wq_gi (ci := 10) (j := 4) 75 d259_72 rfl rfl rfl rfl ?_
      refine wq_s 76 d259_75 rfl rfl (Nat.le_of_ble_eq_true rfl) rfl rfl ?_
      refine wq_l 77 d259_76 rfl rfl rfl rfl ?_
      refine wq_k 79 126 d259_77 (by decide) rfl ?_
      refine wq_v 82 [_] d259_79 rfl rfl m229 rfl rfl (Nat.le_of_ble_eq_true rfl) rfl (rp_want (k := 26) hN (by decide) (by decide) h9 (fun σA hA kA => ?_))
      have gA := rp_Et rp_li g9 (rp_Ek kA)
      refine wq_l 83 d259_82 rfl rfl rfl rfl ?_
      refine wq_k 85 6 d259_83 (by decide) rfl ?_
      refine wq_l 86 d259_85 rfl rfl rfl rfl ?_
      refine wq_l 87 d259_86 rfl rfl rfl rfl ?_
      refine wq_l 88 d259_87 rfl rfl rfl rfl ?_
      refine wq_k 90 11 d259_88 (by decide) rfl ?_
      refine wq_l 91 d259_90 rfl rfl rfl rfl ?_
      refine wq_k 92 0 d259_91 (by decide) rfl ?_
      refine wq_v 95 [_, _, _, _] d259_92 rfl rfl m226 rfl rfl (Nat.le_of_ble_eq_true rfl) rfl (rp_mkin (to := h.1) hN (by omega) (Nat.lt_of_lt_of_le rp_li gA.2.1) hA (fun σB hB mB => ?_))
      refine wq_v 98 [_, _, _] d259_95 rfl rfl m258 rfl rfl (Nat.le_of_ble_eq_true rfl) rfl (sp258 (k := k) (by rw [xs_d34 mB.1, xs_d34 gA.1]; exact h34a) hk ?_)
      refine wq_rv d259_98 ?_
      refine hQ _ _ _ _ _ _ ma (fun w => ⟨hpl, hv (gA.2.2.1 (mB.2.1 w))⟩) (xs_obm (w := 6) (rp_Eww (rp_Ee gA (by simp only [xs_fh_c, pg_seq_c, pg_tok_c, pg_ite_c, pg_nil_c, f63, if_true, if_false, Bool.false_eq_true, List.nil_append, List.append_nil, List.append_assoc]))) (xs_Nd gA.1) mB (fun w => ?_)) (rp_Se (xs_Sq xs_qp hB) (by simp only [xs_fh_c, pg_seq_c, pg_tok_c, pg_ite_c, pg_nil_c, f63, if_true, if_false, Bool.false_eq_true, List.nil_append, List.append_nil, List.append_assoc]) (by omega))
      have w2 := mB.2.1 w
      have ex := xs_bpx (T := pt_T t M n) (k := 26) (by decide) (rp_lv hA w2)
      have e3 := rp_pl h9 (kA.2 w2)
      rw [e3, ← ex]
      simp only [xs_fh_c, pg_seq_c, pg_tok_c, pg_ite_c, pg_nil_c, f63, if_true, if_false, Bool.false_eq_true, List.nil_append, List.append_nil, List.append_assoc]
