theorem xd_dn (T : pg_T) (kk : Nat) : pg_D T (xd_n T kk) := pg_dseq (pg_dname T) (pg_dwhl (pg_gis T (by decide)) kk)
theorem xd_n1 (T : pg_T) (kk : Nat) (c : pg_C) (h : pg_is T 56 (pg_exp T 41 c) = true) : xd_n T (kk + 1) c = ((xd_n T kk (pg_stp (pg_exp T 41 c))).1, [(6, pg_pl T c, pg_v T c, 1)] ++ (xd_n T kk (pg_stp (pg_exp T 41 c))).2) := by
  have e : pg_name T c = (pg_exp T 41 c, [(6, pg_pl T c, pg_v T c, 1)]) := rfl
  unfold xd_n
  simp only [pg_seq_c, e, pg_whl_c, h, if_true, pg_tok_c, List.nil_append, List.append_assoc]
theorem xd_n0 (T : pg_T) (kk : Nat) (c : pg_C) (h : pg_is T 56 (pg_exp T 41 c) = false) : xd_n T (kk + 1) c = (pg_exp T 41 c, [(6, pg_pl T c, pg_v T c, 1)]) := by
  have e : pg_name T c = (pg_exp T 41 c, [(6, pg_pl T c, pg_v T c, 1)]) := rfl
  unfold xd_n
  simp only [pg_seq_c, e, pg_whl_c, h, if_false, Bool.false_eq_true, List.append_nil]
theorem rpl232 {d : Nat} {Q : Option Value → pm_S → Prop} {t : Nat → Nat} {M n : Nat} {s nd : Nat} {a1 : Value} (hN : rp_n t M n) (hs : s ≤ 2800) : ∀ (kk : Nat) (σ : pm_S) (c : pg_C) (h : rp_H) (a4 a5 : Value), rp_T2 t M n σ c h s 4 → nd < h.1 → (σ.1 10 6 = 0 → n ≤ c.1 + kk) → (∀ σ' h' a3 a4 a5, rp_T2 t M n σ' (xd_n (pt_T t M n) kk c).1 h' s 4 → rp_E t M n σ h σ' h' nd (xd_n (pt_T t M n) kk c).2 → pm_WP pm_Y0 (pm_call pm_Y0 (d + 9)) 10 prog_14_method_41_code none Q 77 [.ref 10, a1, .int (nI nd), a3, a4, a5] [] σ') → pm_WP pm_Y0 (pm_call pm_Y0 (d + 9)) 10 prog_14_method_41_code none Q 14 [.ref 10, a1, .int (nI nd), .int 1, a4, a5] [] σ := by
  intro kk
  have dead : ∀ kk (σ : pm_S) (c : pg_C) (h : rp_H) (a4 a5 : Value), rp_T2 t M n σ c h s 4 → ¬ σ.1 10 6 = 0 → (∀ σ' h' a3 a4 a5, rp_T2 t M n σ' (xd_n (pt_T t M n) kk c).1 h' s 4 → rp_E t M n σ h σ' h' nd (xd_n (pt_T t M n) kk c).2 → pm_WP pm_Y0 (pm_call pm_Y0 (d + 9)) 10 prog_14_method_41_code none Q 77 [.ref 10, a1, .int (nI nd), a3, a4, a5] [] σ') → pm_WP pm_Y0 (pm_call pm_Y0 (d + 9)) 10 prog_14_method_41_code none Q 14 [.ref 10, a1, .int (nI nd), .int 1, a4, a5] [] σ := by
    intro kk σ c h a4 a5 hT z hX
    refine wq_l 15 d232_14 rfl rfl rfl rfl ?_
    refine wq_b 77 18 d232_15 rfl (by decide) rfl (fun c15 => absurd c15 (by decide)) (fun c15 => ?_)
    refine wq_l 19 d232_18 rfl rfl rfl rfl ?_
    refine wq_gi (ci := 10) (j := 6) 22 d232_19 rfl rfl rfl rfl ?_
    refine wq_b 77 25 d232_22 rfl (by decide) rfl (fun c22 => ?_) (fun c22 => absurd (z) c22)
    exact hX σ h _ _ _ (xs_dx4 hT.1 z (xd_dn _ kk c (rp_dd hT.1 z))) (rp_Ed rp_Wr z)
  induction kk with
  | zero =>
    intro σ c h a4 a5 hT ht hl hX
    by_cases z : σ.1 10 6 = 0
    · have := hl z
      have := hT.1.1.2.1
      omega
    · exact dead 0 σ c h a4 a5 hT z hX
  | succ kk ih =>
    intro σ c h a4 a5 hT ht hl hX
    by_cases z : σ.1 10 6 = 0
    · have hS := rp_t1 hT z
      have hpl := rp_pl hS z
      refine wq_l 15 d232_14 rfl rfl rfl rfl ?_
      refine wq_b 77 18 d232_15 rfl (by decide) rfl (fun c15 => absurd c15 (by decide)) (fun c15 => ?_)
      refine wq_l 19 d232_18 rfl rfl rfl rfl ?_
      refine wq_gi (ci := 10) (j := 6) 22 d232_19 rfl rfl rfl rfl ?_
      refine wq_b 77 25 d232_22 rfl (by decide) rfl (fun c22 => absurd c22 (fun y => y z)) (fun c22 => ?_)
      refine wq_l 26 d232_25 rfl rfl rfl rfl ?_
      refine wq_gi (ci := 10) (j := 4) 29 d232_26 rfl rfl rfl rfl ?_
      refine wq_s 31 d232_29 rfl rfl (Nat.le_of_ble_eq_true rfl) rfl rfl ?_
      refine wq_l 32 d232_31 rfl rfl rfl rfl ?_
      refine wq_v 35 [] d232_32 rfl rfl m228 rfl rfl (Nat.le_of_ble_eq_true rfl) rfl (rp_wn hN hS (fun σ1 h1 k1 => ?_))
      refine wq_s 37 d232_35 rfl rfl (Nat.le_of_ble_eq_true rfl) rfl rfl ?_
      refine wq_l 38 d232_37 rfl rfl rfl rfl ?_
      refine wq_gi (ci := 10) (j := 6) 41 d232_38 rfl rfl rfl rfl ?_
      refine wq_b 54 44 d232_41 rfl (by decide) rfl (fun c41 => ?_) (fun c41 => ?_)
      · -- pc 54
        refine wq_l 55 d232_54 rfl rfl rfl rfl ?_
        refine wq_l 56 d232_55 rfl rfl rfl rfl ?_
        refine wq_k 58 6 d232_56 (by decide) rfl ?_
        refine wq_l 60 d232_58 rfl rfl rfl rfl ?_
        refine wq_l 62 d232_60 rfl rfl rfl rfl ?_
        refine wq_v 65 [_, _, _, _] d232_62 rfl rfl m226 rfl rfl (Nat.le_of_ble_eq_true rfl) rfl (rp_mkin (to := nd) hN (by omega) ht h1 (fun σ2 h2 m2 => ?_))
        refine wq_a 66 d232_65 rfl rfl ?_
        have e4 : rp_E t M n σ h σ2 (rp_in h nd) nd [(6, pg_pl (pt_T t M n) c, pg_v (pt_T t M n) c, 1)] := by
          have g := rp_Et ht (rp_Ek (h := h) k1) (rp_Mn (k := 6) (p := pg_pl (pt_T t M n) c) (v := pg_v (pt_T t M n) c) (l := []) ht m2 rp_Er (fun y => ⟨rfl, hpl, rp_nm (by decide) hS h1 (m2.2.1 y)⟩))
          rw [List.nil_append] at g
          exact g
        refine wq_l 67 d232_66 rfl rfl rfl rfl ?_
        refine wq_k 70 244 d232_67 (by decide) rfl ?_
        refine wq_v 73 [_] d232_70 rfl rfl m233 rfl rfl (Nat.le_of_ble_eq_true rfl) rfl (rp_take (k := 56) hN (by decide) (by decide) h2 (fun σ3 h3 k3 => ?_))
        refine wq_s 74 d232_73 rfl rfl (Nat.le_of_ble_eq_true rfl) rfl rfl ?_
        refine wq_g 14 d232_74 (by decide) ?_
        cases q : pg_is (pt_T t M n) 56 (pg_exp (pt_T t M n) 41 c) with
        | true =>
          rw [q, if_pos rfl] at h3
          rw [xd_n1 _ _ _ q] at hX
          have l4 := pg_isl q (by decide)
          have q1 := xe_ls l4.1
          have q2 : (pg_exp (pt_T t M n) 41 c).1 = c.1 + 1 := by rw [(pg_exl (by decide) l4.1).2.2]
          have hb := hS.2.2
          refine ih _ _ _ _ _ ⟨rp_Se h3 rfl (by omega), fun y => ?_⟩ (Nat.lt_of_lt_of_le ht e4.2.1) (fun y => by have := hl z; omega) (fun σ' h' a3 a4 a5 b1 b2 => hX σ' h' a3 a4 a5 b1 (rp_Et ht e4 (rp_Ee (rp_Et (Nat.lt_of_lt_of_le ht e4.2.1) (rp_Ek k3) b2) (List.nil_append _))))
          show h.1 + 1 ≤ _
          omega
        | false =>
          rw [q, if_neg (by decide)] at h3
          rw [xd_n0 _ _ _ q] at hX
          refine wq_l 15 d232_14 rfl rfl rfl rfl ?_
          refine wq_b 77 18 d232_15 rfl (by decide) rfl (fun _ => ?_) (fun y => absurd (by decide) y)
          refine hX _ _ _ _ _ ⟨rp_Se h3 rfl (by omega), fun y => ?_⟩ (rp_Ee (rp_Et ht e4 (rp_Ek k3)) (List.append_nil _))
          have l4 := rp_lv h3 y
          have q2 : (pg_exp (pt_T t M n) 41 c).1 = c.1 + 1 := by rw [(pg_exl (by decide) l4).2.2]
          have hb := hS.2.2
          show h.1 + 1 ≤ 2 * (pg_exp (pt_T t M n) 41 c).1 + s
          omega
      · -- pc 44
        refine wq_l 45 d232_44 rfl rfl rfl rfl ?_
        refine wq_gi (ci := 10) (j := 15) 48 d232_45 rfl rfl rfl rfl ?_
        rw [h1.2.1.1]
        have hlt := rp_lt hN h1 (by omega)
        have eh := nI_toInt (n := h.1) (by omega)
        refine wq_k 51 20000 d232_48 (by decide) rfl ?_
        refine wq_b 66 54 d232_51 rfl (by decide) rfl (fun c51 => absurd c51 (by simp only [i_lt, i_le, i_eq, ne_eq, Int32.reduceToInt, b2_0, b2_1, decide_eq_true_eq, decide_eq_false_iff_not, Bool.not_eq_true, Bool.not_eq_false, eh]; omega)) (fun c51 => ?_)
        refine wq_l 55 d232_54 rfl rfl rfl rfl ?_
        refine wq_l 56 d232_55 rfl rfl rfl rfl ?_
        refine wq_k 58 6 d232_56 (by decide) rfl ?_
        refine wq_l 60 d232_58 rfl rfl rfl rfl ?_
        refine wq_l 62 d232_60 rfl rfl rfl rfl ?_
        refine wq_v 65 [_, _, _, _] d232_62 rfl rfl m226 rfl rfl (Nat.le_of_ble_eq_true rfl) rfl (rp_mkin (to := nd) hN (by omega) ht h1 (fun σ2 h2 m2 => ?_))
        refine wq_a 66 d232_65 rfl rfl ?_
        have e4 : rp_E t M n σ h σ2 (rp_in h nd) nd [(6, pg_pl (pt_T t M n) c, pg_v (pt_T t M n) c, 1)] := by
          have g := rp_Et ht (rp_Ek (h := h) k1) (rp_Mn (k := 6) (p := pg_pl (pt_T t M n) c) (v := pg_v (pt_T t M n) c) (l := []) ht m2 rp_Er (fun y => ⟨rfl, hpl, rp_nm (by decide) hS h1 (m2.2.1 y)⟩))
          rw [List.nil_append] at g
          exact g
        refine wq_l 67 d232_66 rfl rfl rfl rfl ?_
        refine wq_k 70 244 d232_67 (by decide) rfl ?_
        refine wq_v 73 [_] d232_70 rfl rfl m233 rfl rfl (Nat.le_of_ble_eq_true rfl) rfl (rp_take (k := 56) hN (by decide) (by decide) h2 (fun σ3 h3 k3 => ?_))
        refine wq_s 74 d232_73 rfl rfl (Nat.le_of_ble_eq_true rfl) rfl rfl ?_
        refine wq_g 14 d232_74 (by decide) ?_
        cases q : pg_is (pt_T t M n) 56 (pg_exp (pt_T t M n) 41 c) with
        | true =>
          rw [q, if_pos rfl] at h3
          rw [xd_n1 _ _ _ q] at hX
          have l4 := pg_isl q (by decide)
          have q1 := xe_ls l4.1
          have q2 : (pg_exp (pt_T t M n) 41 c).1 = c.1 + 1 := by rw [(pg_exl (by decide) l4.1).2.2]
          have hb := hS.2.2
          refine ih _ _ _ _ _ ⟨rp_Se h3 rfl (by omega), fun y => ?_⟩ (Nat.lt_of_lt_of_le ht e4.2.1) (fun y => by have := hl z; omega) (fun σ' h' a3 a4 a5 b1 b2 => hX σ' h' a3 a4 a5 b1 (rp_Et ht e4 (rp_Ee (rp_Et (Nat.lt_of_lt_of_le ht e4.2.1) (rp_Ek k3) b2) (List.nil_append _))))
          show h.1 + 1 ≤ _
          omega
        | false =>
          rw [q, if_neg (by decide)] at h3
          rw [xd_n0 _ _ _ q] at hX
          refine wq_l 15 d232_14 rfl rfl rfl rfl ?_
          refine wq_b 77 18 d232_15 rfl (by decide) rfl (fun _ => ?_) (fun y => absurd (by decide) y)
          refine hX _ _ _ _ _ ⟨rp_Se h3 rfl (by omega), fun y => ?_⟩ (rp_Ee (rp_Et ht e4 (rp_Ek k3)) (List.append_nil _))
          have l4 := rp_lv h3 y
          have q2 : (pg_exp (pt_T t M n) 41 c).1 = c.1 + 1 := by rw [(pg_exl (by decide) l4).2.2]
          have hb := hS.2.2
          show h.1 + 1 ≤ 2 * (pg_exp (pt_T t M n) 41 c).1 + s
          omega
    · exact dead (kk + 1) σ c h a4 a5 hT z hX
theorem rp232 {d : Nat} {Q : Option Value → pm_S → Prop} {t : Nat → Nat} {M n : Nat} {σ : pm_S} {h : rp_H} {c : pg_C} {s : Nat} {sec : Nat} (hN : rp_n t M n) (hs : s ≤ 2700) (ht : sec < h.1) (hc1 : 1 ≤ c.1) (z : σ.1 10 6 = 0) (hS : rp_S t M n σ c h s) (hQ : ∀ σ' h', rp_S t M n σ' (pg_decl (pt_T t M n) c).1 h' (s + 13) → rp_E t M n σ h σ' h' sec (pg_decl (pt_T t M n) c).2 → Q none σ') : pm_call pm_Y0 (d + 10) 232 [.ref 10, .int (nI sec)] σ Q := by
  have hpl := rp_pl hS z
  rw [pg_decl_c] at hQ
  dsimp only at hQ
  obtain ⟨K, eK⟩ : ∃ K, K = pg_M := ⟨_, rfl⟩
  have eM : K = 8192 := eK
  rw [← eK] at hQ
  clear eK
  have n1 := hN.1
  have n2 := hN.2.2.2.1
  have hbd := hS.2.2
  refine wq_m m232 (Nat.le_of_ble_eq_true rfl) (by decide) rfl ?_
  refine wq_l 1 d232_0 rfl rfl rfl rfl ?_
  refine wq_l 2 d232_1 rfl rfl rfl rfl ?_
  refine wq_k 3 5 d232_2 (by decide) rfl ?_
  refine wq_l 4 d232_3 rfl rfl rfl rfl ?_
  refine wq_gi (ci := 10) (j := 4) 7 d232_4 rfl rfl rfl rfl ?_
  refine wq_k 8 0 d232_7 (by decide) rfl ?_
  refine wq_v 11 [_, _, _, _] d232_8 rfl rfl m226 rfl rfl (Nat.le_of_ble_eq_true rfl) rfl (rp_mkin (to := sec) hN (by omega) ht hS (fun σ1 h1 m1 => ?_))
  refine wq_s 12 d232_11 rfl rfl (Nat.le_of_ble_eq_true rfl) rfl rfl ?_
  refine wq_k 13 1 d232_12 (by decide) rfl ?_
  refine wq_s 14 d232_13 rfl rfl (Nat.le_of_ble_eq_true rfl) rfl rfl ?_
  refine rpl232 (s := s + 1) hN (by omega) K _ _ _ _ _ (rp_t0 h1) rp_li (fun _ => by omega) (fun σ2 h2 a3 a4 a5 b1 b2 => ?_)
  refine rps232 (s := s + 1 + 4) hN (by omega) (Nat.lt_of_lt_of_le rp_li b2.2.1) b1.1 (fun σ3 h3 c1 c2 => ?_)
  exact hQ _ _ (rp_Se c1 rfl (by omega)) (rp_Mn ht m1 (rp_Et rp_li b2 c2) (fun _ => ⟨rfl, hpl, rp_V0 (by decide)⟩))
