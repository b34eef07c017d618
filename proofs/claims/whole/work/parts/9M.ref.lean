/-! choices of a CASE -/
theorem xs_dx4 {t : Nat → Nat} {M n : Nat} {σ2 : pm_S} {h2 : rp_H} {c2 c' : pg_C} {s : Nat} (hS : rp_S t M n σ2 c2 h2 (s + 4)) (z : ¬ σ2.1 10 6 = 0) (q : pg_deq c2 c') : rp_T2 t M n σ2 c' h2 s 4 := ⟨rp_Sd hS (rp_dd hS z) q (Nat.le_refl _), fun y => absurd y z⟩
theorem pg_range_c (T : pg_T) (c : pg_C) : pg_range T c = (if pg_is T 48 (pg_const T c).1 then ((pg_const T (pg_stp (pg_const T c).1)).1, (18, pg_pl T c, 0, ((pg_const T c).2 ++ (pg_const T (pg_stp (pg_const T c).1)).2).length + 1) :: ((pg_const T c).2 ++ (pg_const T (pg_stp (pg_const T c).1)).2)) else ((pg_const T c).1, (18, pg_pl T c, 0, (pg_const T c).2.length + 1) :: (pg_const T c).2)) := by
  unfold pg_range
  rw [pg_node_c, pg_seq_c, pg_ite_c]
  cases q : pg_is T 48 (pg_const T c).1 with
  | true => simp only [if_true, pg_seq_c, pg_tok_c, List.nil_append]
  | false => simp only [if_false, Bool.false_eq_true, pg_nil_c, List.append_nil]
theorem pg_range_n (T : pg_T) (c : pg_C) : 1 ≤ (pg_range T c).2.length := by
  rw [pg_range_c]
  split <;> (rw [List.length_cons]; omega)
theorem rpl263 {d : Nat} {Q : Option Value → pm_S → Prop} {t : Nat → Nat} {M n : Nat} {s nd : Nat} {a1 : Value} (hN : rp_n t M n) (hs : s ≤ 2800) : ∀ (kk : Nat) (σ : pm_S) (c : pg_C) (h : rp_H) (a4 : Value), rp_T2 t M n σ c h s 4 → nd < h.1 → (σ.1 10 6 = 0 → n ≤ c.1 + kk) → (∀ σ' h' a3 a4, rp_T2 t M n σ' (pg_sep (pt_T t M n) (pg_range (pt_T t M n)) kk c).1 h' s 4 → rp_E t M n σ h σ' h' nd (pg_sep (pt_T t M n) (pg_range (pt_T t M n)) kk c).2 → pm_WP pm_Y0 (pm_call pm_Y0 (d + 10)) 10 prog_14_method_65_code none Q 73 [.ref 10, a1, .int (nI nd), a3, a4] [] σ') → pm_WP pm_Y0 (pm_call pm_Y0 (d + 10)) 10 prog_14_method_65_code none Q 15 [.ref 10, a1, .int (nI nd), .int 1, a4] [] σ := by
  intro kk
  have dead : ∀ kk (σ : pm_S) (c : pg_C) (h : rp_H) (a4 : Value), rp_T2 t M n σ c h s 4 → ¬ σ.1 10 6 = 0 → (∀ σ' h' a3 a4, rp_T2 t M n σ' (pg_sep (pt_T t M n) (pg_range (pt_T t M n)) kk c).1 h' s 4 → rp_E t M n σ h σ' h' nd (pg_sep (pt_T t M n) (pg_range (pt_T t M n)) kk c).2 → pm_WP pm_Y0 (pm_call pm_Y0 (d + 10)) 10 prog_14_method_65_code none Q 73 [.ref 10, a1, .int (nI nd), a3, a4] [] σ') → pm_WP pm_Y0 (pm_call pm_Y0 (d + 10)) 10 prog_14_method_65_code none Q 15 [.ref 10, a1, .int (nI nd), .int 1, a4] [] σ := by
    intro kk σ c h a4 hT z hX
    refine wq_l 16 d263_15 rfl rfl rfl rfl ?_
    refine wq_b 73 19 d263_16 rfl (by decide) rfl (fun c16 => absurd c16 (by decide)) (fun c16 => ?_)
    refine wq_l 20 d263_19 rfl rfl rfl rfl ?_
    refine wq_gi (ci := 10) (j := 6) 23 d263_20 rfl rfl rfl rfl ?_
    refine wq_b 73 26 d263_23 rfl (by decide) rfl (fun c23 => ?_) (fun c23 => absurd (z) c23)
    exact hX σ h _ _ (xs_dx4 hT.1 z (pg_dsep (pg_drange _) kk c (rp_dd hT.1 z))) (rp_Ed rp_Wr z)
  induction kk with
  | zero =>
    intro σ c h a4 hT ht hl hX
    by_cases z : σ.1 10 6 = 0
    · have := hl z
      have := hT.1.1.2.1
      omega
    · exact dead 0 σ c h a4 hT z hX
  | succ kk ih =>
    intro σ c h a4 hT ht hl hX
    by_cases z : σ.1 10 6 = 0
    · have hS := rp_t1 hT z
      have hpl := rp_pl hS z
      rw [pg_sep_c] at hX
      refine wq_l 16 d263_15 rfl rfl rfl rfl ?_
      refine wq_b 73 19 d263_16 rfl (by decide) rfl (fun c16 => absurd c16 (by decide)) (fun c16 => ?_)
      refine wq_l 20 d263_19 rfl rfl rfl rfl ?_
      refine wq_gi (ci := 10) (j := 6) 23 d263_20 rfl rfl rfl rfl ?_
      refine wq_b 73 26 d263_23 rfl (by decide) rfl (fun c23 => absurd c23 (fun y => y z)) (fun c23 => ?_)
      refine wq_l 27 d263_26 rfl rfl rfl rfl ?_
      refine wq_l 28 d263_27 rfl rfl rfl rfl ?_
      refine wq_k 30 18 d263_28 (by decide) rfl ?_
      refine wq_l 31 d263_30 rfl rfl rfl rfl ?_
      refine wq_gi (ci := 10) (j := 4) 34 d263_31 rfl rfl rfl rfl ?_
      refine wq_k 35 0 d263_34 (by decide) rfl ?_
      refine wq_v 38 [_, _, _, _] d263_35 rfl rfl m226 rfl rfl (Nat.le_of_ble_eq_true rfl) rfl (rp_mkin (to := nd) hN (by omega) ht hS (fun σ1 h1 m1 => ?_))
      refine wq_s 40 d263_38 rfl rfl (Nat.le_of_ble_eq_true rfl) rfl rfl ?_
      refine wq_l 41 d263_40 rfl rfl rfl rfl ?_
      refine wq_l 43 d263_41 rfl rfl rfl rfl ?_
      refine wq_v 46 [_] d263_43 rfl rfl m234 rfl rfl (Nat.le_of_ble_eq_true rfl) rfl (rp234 (s := s + 1) (to := h.1) hN (by omega) rp_li h1 (fun σ2 h2' h2 e2 => ?_))
      refine wq_l 47 d263_46 rfl rfl rfl rfl ?_
      refine wq_k 50 401 d263_47 (by decide) rfl ?_
      refine wq_v 53 [_] d263_50 rfl rfl m233 rfl rfl (Nat.le_of_ble_eq_true rfl) rfl (rp_take (k := 48) hN (by decide) (by decide) h2 (fun σ3 h3 k3 => ?_))
      refine wq_b 62 56 d263_53 rfl (by decide) rfl (fun c53 => ?_) (fun c53 => ?_)
      · -- pc 62
        have f53 := b2z c53; rw [f53] at h3
        rw [if_neg (by decide)] at h3
        have g4 := rp_Mn (k := 18) (p := pg_pl (pt_T t M n) c) (v := 0) ht m1 (rp_Et rp_li e2 (rp_Ek k3)) (fun y => ⟨rfl, hpl, rp_V0 (by decide)⟩)
        rw [List.append_nil] at g4
        have e5 : rp_E t M n σ h σ3 h2' nd (pg_range (pt_T t M n) c).2 := by
          rw [pg_range_c, f53, if_neg (by decide)]
          exact g4
        have h5 : rp_S t M n σ3 (pg_range (pt_T t M n) c).1 h2' (s + 4) := by
          rw [pg_range_c, f53, if_neg (by decide)]
          exact rp_Se h3 rfl (by omega)
        refine wq_l 63 d263_62 rfl rfl rfl rfl ?_
        refine wq_k 66 244 d263_63 (by decide) rfl ?_
        refine wq_v 69 [_] d263_66 rfl rfl m233 rfl rfl (Nat.le_of_ble_eq_true rfl) rfl (rp_take (k := 56) hN (by decide) (by decide) h5 (fun σ6 h6 k6 => ?_))
        refine wq_s 70 d263_69 rfl rfl (Nat.le_of_ble_eq_true rfl) rfl rfl ?_
        refine wq_g 15 d263_70 (by decide) ?_
        have hT5 := rp_t2 (D := 4) (pg_Lrange (pt_T t M n)) hS h5 e5
        cases q : pg_is (pt_T t M n) 56 (pg_range (pt_T t M n) c).1 with
        | true =>
          rw [q, if_pos rfl] at h6
          have l4 := pg_isl q (by decide)
          have q1 := xe_ls l4.1
          have q2 := rp_t3 (pg_Lrange (pt_T t M n)) (c := c) (pg_range_n _ _) l4.1
          simp only [pg_seq_c, pg_ite_c, q, if_true, pg_tok_c, List.nil_append] at hX
          refine ih _ _ _ _ ⟨h6, fun y => ?_⟩ (Nat.lt_of_lt_of_le ht e5.2.1) (fun y => by have := hl z; omega) (fun σ' h' a3 a4 b1 b2 => hX σ' h' a3 a4 b1 (rp_Et ht e5 (rp_Ee (rp_Et (Nat.lt_of_lt_of_le ht e5.2.1) (rp_Ek k6) b2) (List.nil_append _))))
          have := hT5.2 (k6.2 y)
          show _ ≤ 2 * (pg_stp (pg_range (pt_T t M n) c).1).1 + s
          omega
        | false =>
          rw [q, if_neg (by decide)] at h6
          simp only [pg_seq_c, pg_ite_c, q, if_false, Bool.false_eq_true, pg_nil_c, List.append_nil] at hX
          refine wq_l 16 d263_15 rfl rfl rfl rfl ?_
          refine wq_b 73 19 d263_16 rfl (by decide) rfl (fun _ => ?_) (fun y => absurd (by decide) y)
          exact hX _ _ _ _ ⟨h6, fun y => hT5.2 (k6.2 y)⟩ (rp_Ee (rp_Et ht e5 (rp_Ek k6)) (List.append_nil _))
      · -- pc 56
        have f53 := b2n c53; rw [f53] at h3
        rw [if_pos rfl] at h3
        refine wq_l 57 d263_56 rfl rfl rfl rfl ?_
        refine wq_l 59 d263_57 rfl rfl rfl rfl ?_
        refine wq_v 62 [_] d263_59 rfl rfl m260 rfl rfl (Nat.le_of_ble_eq_true rfl) rfl (rp260 (s := s + 2) (to := h.1) hN (by omega) (Nat.lt_of_lt_of_le rp_li e2.2.1) h3 (fun σ4 h4' h4 e4 => ?_))
        have g4 := rp_Mn (k := 18) (p := pg_pl (pt_T t M n) c) (v := 0) ht m1 (rp_Et rp_li e2 (rp_Et (Nat.lt_of_lt_of_le rp_li e2.2.1) (rp_Ek k3) e4)) (fun y => ⟨rfl, hpl, rp_V0 (by decide)⟩)
        rw [List.nil_append] at g4
        have e5 : rp_E t M n σ h σ4 h4' nd (pg_range (pt_T t M n) c).2 := by
          rw [pg_range_c, f53, if_pos rfl]
          exact g4
        have h5 : rp_S t M n σ4 (pg_range (pt_T t M n) c).1 h4' (s + 4) := by
          rw [pg_range_c, f53, if_pos rfl]
          exact rp_Se h4 rfl (by omega)
        refine wq_l 63 d263_62 rfl rfl rfl rfl ?_
        refine wq_k 66 244 d263_63 (by decide) rfl ?_
        refine wq_v 69 [_] d263_66 rfl rfl m233 rfl rfl (Nat.le_of_ble_eq_true rfl) rfl (rp_take (k := 56) hN (by decide) (by decide) h5 (fun σ6 h6 k6 => ?_))
        refine wq_s 70 d263_69 rfl rfl (Nat.le_of_ble_eq_true rfl) rfl rfl ?_
        refine wq_g 15 d263_70 (by decide) ?_
        have hT5 := rp_t2 (D := 4) (pg_Lrange (pt_T t M n)) hS h5 e5
        cases q : pg_is (pt_T t M n) 56 (pg_range (pt_T t M n) c).1 with
        | true =>
          rw [q, if_pos rfl] at h6
          have l4 := pg_isl q (by decide)
          have q1 := xe_ls l4.1
          have q2 := rp_t3 (pg_Lrange (pt_T t M n)) (c := c) (pg_range_n _ _) l4.1
          simp only [pg_seq_c, pg_ite_c, q, if_true, pg_tok_c, List.nil_append] at hX
          refine ih _ _ _ _ ⟨h6, fun y => ?_⟩ (Nat.lt_of_lt_of_le ht e5.2.1) (fun y => by have := hl z; omega) (fun σ' h' a3 a4 b1 b2 => hX σ' h' a3 a4 b1 (rp_Et ht e5 (rp_Ee (rp_Et (Nat.lt_of_lt_of_le ht e5.2.1) (rp_Ek k6) b2) (List.nil_append _))))
          have := hT5.2 (k6.2 y)
          show _ ≤ 2 * (pg_stp (pg_range (pt_T t M n) c).1).1 + s
          omega
        | false =>
          rw [q, if_neg (by decide)] at h6
          simp only [pg_seq_c, pg_ite_c, q, if_false, Bool.false_eq_true, pg_nil_c, List.append_nil] at hX
          refine wq_l 16 d263_15 rfl rfl rfl rfl ?_
          refine wq_b 73 19 d263_16 rfl (by decide) rfl (fun _ => ?_) (fun y => absurd (by decide) y)
          exact hX _ _ _ _ ⟨h6, fun y => hT5.2 (k6.2 y)⟩ (rp_Ee (rp_Et ht e5 (rp_Ek k6)) (List.append_nil _))
    · exact dead (kk + 1) σ c h a4 hT z hX
theorem rps263 {d : Nat} {Q : Option Value → pm_S → Prop} {t : Nat → Nat} {M n : Nat} {σ : pm_S} {h : rp_H} {s : Nat} {σ0 σ1 : pm_S} {h0 : rp_H} {nd k : Nat} {y : Int32} {c0 : pg_C} {S : pg_C × List pg_N} {a3 a4 : Value} (hN : rp_n t M n) (hs : s ≤ 2900) (ht : nd < h0.1) (m1 : rp_M σ0 h0.1 σ1 (nI 17) y 0) (hy : σ0.1 10 6 = 0 → y = nI (pg_pl (pt_T t M n) c0)) (h34 : σ0.1 10 34 = nI k) (hk : k < 70) (hS : rp_S t M n σ S.1 h s) (b2 : rp_E t M n σ1 (rp_in h0 nd) σ h h0.1 S.2) (hQ : ∀ σa y σ2 h2 b2, rp_M σ0 h0.1 σa (nI 17) y 0 → (σ2.1 10 6 = 0 → y = nI (pg_pl (pt_T t M n) c0)) → xs_ob t M n σa (rp_in h0 nd) h0.1 nd S.2 4 k σ2 h2 (pg_exp (pt_T t M n) 58 S.1) b2 → rp_S t M n σ2 (pg_exp (pt_T t M n) 58 S.1) h2 (s + 1) → Q none σ2) : pm_WP pm_Y0 (pm_call pm_Y0 (d + 10)) 10 prog_14_method_65_code none Q 73 [.ref 10, .int (nI nd), .int (nI h0.1), a3, a4] [] σ := by
  refine wq_l 74 d263_73 rfl rfl rfl rfl ?_
  refine wq_gi (ci := 10) (j := 4) 77 d263_74 rfl rfl rfl rfl ?_
  refine wq_s 79 d263_77 rfl rfl (Nat.le_of_ble_eq_true rfl) rfl rfl ?_
  refine wq_l 80 d263_79 rfl rfl rfl rfl ?_
  refine wq_k 83 258 d263_80 (by decide) rfl ?_
  refine wq_v 86 [_] d263_83 rfl rfl m229 rfl rfl (Nat.le_of_ble_eq_true rfl) rfl (rp_want (k := 58) hN (by decide) (by decide) hS (fun σ3 h3 k3 => ?_))
  refine wq_l 87 d263_86 rfl rfl rfl rfl ?_
  refine wq_k 88 4 d263_87 (by decide) rfl ?_
  refine wq_l 89 d263_88 rfl rfl rfl rfl ?_
  refine wq_l 90 d263_89 rfl rfl rfl rfl ?_
  refine wq_l 91 d263_90 rfl rfl rfl rfl ?_
  refine wq_k 93 11 d263_91 (by decide) rfl ?_
  refine wq_l 95 d263_93 rfl rfl rfl rfl ?_
  refine wq_k 96 0 d263_95 (by decide) rfl ?_
  refine wq_v 99 [_, _, _, _] d263_96 rfl rfl m226 rfl rfl (Nat.le_of_ble_eq_true rfl) rfl (rp_mkin (to := h0.1) hN (by omega) (Nat.lt_of_lt_of_le rp_li b2.2.1) h3 (fun σ4 h4 m4 => ?_))
  refine wq_v 102 [_, _, _] d263_99 rfl rfl m258 rfl rfl (Nat.le_of_ble_eq_true rfl) rfl (sp258 (k := k) (by rw [xs_d34 m4.1, xs_k34 k3, xs_d34 b2.1, xs_d34 m1.1]; exact h34) hk ?_)
  refine wq_rv d263_102 ?_
  have e3 := rp_Et rp_li b2 (rp_Ek k3)
  rw [List.append_nil] at e3
  refine hQ _ _ _ _ _ m1 (fun w => hy (m1.2.1 (e3.2.2.1 (m4.2.1 w)))) (xs_obm (w := 4) (rp_Eww e3) (xs_Nd e3.1) m4 (fun w => ?_)) (xs_Sq xs_qp h4)
  have w2 := m4.2.1 w
  rw [xs_bpx (by decide) (rp_lv h3 w2)]
  exact rp_pl hS (k3.2 w2)
theorem rp263 {d : Nat} {Q : Option Value → pm_S → Prop} {t : Nat → Nat} {M n : Nat} {σ : pm_S} {h : rp_H} {c : pg_C} {s : Nat} {nd k : Nat} (hN : rp_n t M n) (hs : s ≤ 2700) (ht : nd < h.1) (hc1 : 1 ≤ c.1) (h34 : σ.1 10 34 = nI k) (hk : k < 70) (hS : rp_S t M n σ c h s) (z : σ.1 10 6 = 0) (hQ : ∀ σa y σ2 h2 b2, rp_M σ h.1 σa (nI 17) y 0 → (σ2.1 10 6 = 0 → y = nI (pg_pl (pt_T t M n) c)) → xs_ob t M n σa (rp_in h nd) h.1 nd (pg_sep (pt_T t M n) (pg_range (pt_T t M n)) pg_M c).2 4 k σ2 h2 (pg_exp (pt_T t M n) 58 (pg_sep (pt_T t M n) (pg_range (pt_T t M n)) pg_M c).1) b2 → rp_S t M n σ2 (pg_exp (pt_T t M n) 58 (pg_sep (pt_T t M n) (pg_range (pt_T t M n)) pg_M c).1) h2 (s + 6) → Q none σ2) : pm_call pm_Y0 (d + 11) 263 [.ref 10, .int (nI nd)] σ Q := by
  have hpl := rp_pl hS z
  obtain ⟨K, eK⟩ : ∃ K, K = pg_M := ⟨_, rfl⟩
  have eM : K = 8192 := eK
  rw [← eK] at hQ
  clear eK
  have n1 := hN.1
  have n2 := hN.2.2.2.1
  have hbd := hS.2.2
  refine wq_m m263 (Nat.le_of_ble_eq_true rfl) (by decide) rfl ?_
  refine wq_l 1 d263_0 rfl rfl rfl rfl ?_
  refine wq_l 2 d263_1 rfl rfl rfl rfl ?_
  refine wq_k 4 17 d263_2 (by decide) rfl ?_
  refine wq_l 5 d263_4 rfl rfl rfl rfl ?_
  refine wq_gi (ci := 10) (j := 4) 8 d263_5 rfl rfl rfl rfl ?_
  refine wq_k 9 0 d263_8 (by decide) rfl ?_
  refine wq_v 12 [_, _, _, _] d263_9 rfl rfl m226 rfl rfl (Nat.le_of_ble_eq_true rfl) rfl (rp_mkin (to := nd) hN (by omega) ht hS (fun σ1 h1 m1 => ?_))
  refine wq_s 13 d263_12 rfl rfl (Nat.le_of_ble_eq_true rfl) rfl rfl ?_
  refine wq_k 14 1 d263_13 (by decide) rfl ?_
  refine wq_s 15 d263_14 rfl rfl (Nat.le_of_ble_eq_true rfl) rfl rfl ?_
  refine rpl263 (s := s + 1) hN (by omega) K _ _ _ _ (rp_t0 h1) rp_li (fun _ => by omega) (fun σ2 h2 a3 a4 b1 b2 => ?_)
  exact rps263 hN (by omega) ht m1 (fun w => hpl) h34 hk b1.1 b2 hQ
