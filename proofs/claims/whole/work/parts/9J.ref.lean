theorem xs_n7 (k : Nat) (p : pg_C → Nat) (v : pg_C → Int32) (o e : pg_C → pg_C) (E : pg_P) (c : pg_C) : pg_node k p v (pg_seq (pg_tok o) (pg_seq E (pg_tok e))) c = (e (E (o c)).1, (k, p c, v c, (E (o c)).2.length + 1) :: (E (o c)).2) := by
  rw [pg_node_c, pg_seq_c, pg_seq_c, pg_tok_c, pg_tok_c, List.nil_append, List.append_nil]
def xs_iF (T : pg_T) : pg_P := pg_ite (pg_is T 53) pg_nil (pg_sep T (pg_par T) pg_M)
theorem pg_inv_c (T : pg_T) (c : pg_C) : pg_inv T c = (pg_exp T 53 (pg_dec (xs_iF T (pg_opn (pg_stp c))).1), (13, pg_pl T c, pg_v T c, (xs_iF T (pg_opn (pg_stp c))).2.length + 1) :: (xs_iF T (pg_opn (pg_stp c))).2) := by
  unfold pg_inv xs_iF pg_par
  exact xs_n7 13 _ _ _ _ _ c
theorem pg_elem_c (T : pg_T) (E : pg_P) (c : pg_C) : pg_elem T E c = (pg_exp T 55 (pg_dec (E (pg_opn (pg_stp c))).1), (32, pg_pl T c, pg_v T c, (E (pg_opn (pg_stp c))).2.length + 1) :: (E (pg_opn (pg_stp c))).2) := by
  unfold pg_elem
  exact xs_n7 32 _ _ _ _ _ c
theorem pg_asg_c (T : pg_T) (c : pg_C) : pg_asg T c = ((pg_E T (pg_exp T 47 (pg_targ T c).1)).1, (12, pg_pl T (pg_targ T c).1, 0, ((pg_targ T c).2 ++ (pg_E T (pg_exp T 47 (pg_targ T c).1)).2).length + 1) :: ((pg_targ T c).2 ++ (pg_E T (pg_exp T 47 (pg_targ T c).1)).2)) := by
  unfold pg_asg
  rfl
theorem pg_targ_c (T : pg_T) (c : pg_C) : pg_targ T c = if pg_next T 54 c then pg_elem T (pg_E T) c else (pg_exp T 41 c, [(6, pg_pl T c, pg_v T c, 1)]) := by
  unfold pg_targ
  rw [pg_ite_c]
  rfl
theorem xs_s1 (p : pg_C → Bool) (A B : pg_P) (e : pg_C → pg_C) (c : pg_C) (h : p c = false) : pg_seq (pg_ite p A B) (pg_tok e) c = (e (B c).1, (B c).2) := by
  rw [pg_seq_c, pg_ite_c, if_neg (by rw [h]; decide), pg_tok_c, List.append_nil]
theorem xs_s2 (p : pg_C → Bool) (A B : pg_P) (c : pg_C) (h : p c = true) : pg_ite p A B c = A c := by rw [pg_ite_c, if_pos h]
theorem xs_s3 (p : pg_C → Bool) (A B : pg_P) (c : pg_C) (h : p c = false) : pg_ite p A B c = B c := by rw [pg_ite_c, if_neg (by rw [h]; decide)]
theorem xs_s4 (p : pg_C → Bool) (A B : pg_P) (e : pg_C → pg_C) (c : pg_C) (h : p c = true) : pg_seq (pg_ite p A B) (pg_tok e) c = (e (A c).1, (A c).2) := by
  rw [pg_seq_c, pg_ite_c, if_pos h, pg_tok_c, List.append_nil]
/-- a statement that begins with a name -/
theorem xs_stn41 (T : pg_T) (B : pg_P) (c : pg_C) (h : pg_is T 41 c = true) : pg_stmt T B c = (pg_exp T 57 (if pg_next T 52 c then pg_inv T c else pg_asg T c).1, (if pg_next T 52 c then pg_inv T c else pg_asg T c).2) := by
  unfold pg_stmt
  rw [xs_s1 _ _ _ _ _ (xs_isf h (show 41 ≠ 57 by decide)), xs_s2 _ _ _ _ h, pg_ite_c]
theorem xs_iFD (T : pg_T) : pg_D T (xs_iF T) := pg_dite2 (pg_dnil T) (pg_dsep (pg_dpr T) pg_M)
theorem xs_iFO (T : pg_T) : pg_O T (xs_iF T) := pg_oite (pg_onil T) (pg_osep (pg_opar T) (pg_dpr T) pg_M)
theorem xs_iF1 (T : pg_T) {c : pg_C} (h : pg_is T 53 c = true) : xs_iF T c = (c, []) := xs_s2 _ _ _ _ h
theorem xs_iF2 (T : pg_T) {c : pg_C} (h : pg_is T 53 c = false) : ∃ K, K = 8192 ∧ xs_iF T c = pg_sep T (pg_par T) K c := ⟨pg_M, rfl, xs_s3 _ _ _ _ h⟩
theorem rp256 {d : Nat} {Q : Option Value → pm_S → Prop} {t : Nat → Nat} {M n : Nat} {σ : pm_S} {h : rp_H} {c : pg_C} {s : Nat} {body p : Nat} {y z v : Int32} (hN : rp_n t M n) (hs : s ≤ 2700) (hb : body < h.1) (hf : pg_is (pt_T t M n) 52 c = true) (hc1 : 1 ≤ c.1) (hS : rp_S t M n σ c h s) (hy : σ.1 10 6 = 0 → y = nI p ∧ rp_V t M n 13 z v) (hQ : ∀ σ' h', rp_S t M n σ' (pg_exp (pt_T t M n) 57 (pg_exp (pt_T t M n) 53 (pg_dec (xs_iF (pt_T t M n) (pg_opn c)).1))) h' (s + 8) → rp_E t M n σ h σ' h' body ((13, p, v, (xs_iF (pt_T t M n) (pg_opn c)).2.length + 1) :: (xs_iF (pt_T t M n) (pg_opn c)).2) → Q none σ') : pm_call pm_Y0 (d + 15) 256 [.ref 10, .int (nI body), .int y, .int z] σ Q := by
  have hFD := xs_iFD (pt_T t M n)
  have hFO := xs_iFO (pt_T t M n)
  have hF1 := fun h => xs_iF1 (pt_T t M n) (c := pg_opn c) h
  have hF2 := fun h => xs_iF2 (pt_T t M n) (c := pg_opn c) h
  generalize xs_iF (pt_T t M n) = F at *
  refine wq_m m256 (Nat.le_of_ble_eq_true rfl) (by decide) rfl ?_
  refine wq_l 1 d256_0 rfl rfl rfl rfl ?_
  refine wq_l 2 d256_1 rfl rfl rfl rfl ?_
  refine wq_k 4 13 d256_2 (by decide) rfl ?_
  refine wq_l 5 d256_4 rfl rfl rfl rfl ?_
  refine wq_l 6 d256_5 rfl rfl rfl rfl ?_
  refine wq_v 9 [_, _, _, _] d256_6 rfl rfl m226 rfl rfl (Nat.le_of_ble_eq_true rfl) rfl (rp_mkin (to := body) hN (by omega) hb hS (fun σ1 h1 m1 => ?_))
  refine wq_s 11 d256_9 rfl rfl (Nat.le_of_ble_eq_true rfl) rfl rfl ?_
  refine wq_l 12 d256_11 rfl rfl rfl rfl ?_
  refine wq_v 15 [] d256_12 rfl rfl m248 rfl rfl (Nat.le_of_ble_eq_true rfl) rfl (rp_deep hN (pg_isl hf (by decide)) h1 (fun σ2 h2 k2 => ?_))
  have tail : ∀ σX hX a5 a6 a7 a8, rp_S t M n σX (F (pg_opn c)).1 hX (s + 8) → rp_E t M n σ1 (rp_in h body) σX hX h.1 (F (pg_opn c)).2 → pm_WP pm_Y0 (pm_call pm_Y0 (d + 14)) 10 prog_14_method_59_code none Q 108 [.ref 10, .int (nI body), .int y, .int z, .int (nI h.1), a5, a6, a7, a8] [] σX := fun σX hX a5 a6 a7 a8 b1 b2 => by
    refine rps256 hN b1 (fun w => ?_) (fun σ' b3 b4 => hQ σ' hX b3 (rp_Mn hb m1 (rp_Ee (rp_Et rp_li b2 (rp_Ek b4)) (List.append_nil _)) (fun w => ⟨rfl, hy (m1.2.1 (b2.2.2.1 (b4.2 w)))⟩)))
    have o1 := hFO _ w
    have o2 := xe_ln (pg_bk hFD w)
    omega
  refine wq_l 16 d256_15 rfl rfl rfl rfl ?_
  refine wq_gi (ci := 10) (j := 6) 19 d256_16 rfl rfl rfl rfl ?_
  refine wq_b 35 22 d256_19 rfl (by decide) rfl (fun c19 => ?_) (fun c19 => ?_)
  · -- pc 35
    skip
    refine wq_k 36 0 d256_35 (by decide) rfl ?_
    refine wq_s 38 d256_36 rfl rfl (Nat.le_of_ble_eq_true rfl) rfl rfl ?_
    have dd := rp_dd h2 c19
    have dq := hFD _ dd
    refine wq_l 40 d256_38 rfl rfl rfl rfl ?_
    refine wq_b 108 43 d256_40 rfl (by decide) rfl (fun _ => ?_) (fun w => absurd (by decide) w)
    exact tail _ _ _ _ _ _ (rp_Sd h2 dd dq (by omega)) (rp_Ed (rp_Wk rp_Wr k2) c19)
  · -- pc 22
    have z2 := Classical.not_not.mp c19
    refine wq_l 23 d256_22 rfl rfl rfl rfl ?_
    refine wq_k 25 41 d256_23 (by decide) rfl ?_
    refine wq_v 28 [_] d256_25 rfl rfl m238 rfl rfl (Nat.le_of_ble_eq_true rfl) rfl (rp_sg (k := 53) hN (by decide) (by decide) h2 ?_)
    refine wq_b 35 31 d256_28 rfl (by decide) rfl (fun c28 => ?_) (fun c28 => ?_)
    · -- pc 35
      have f28 := b2n c28
      skip
      refine wq_k 36 0 d256_35 (by decide) rfl ?_
      refine wq_s 38 d256_36 rfl rfl (Nat.le_of_ble_eq_true rfl) rfl rfl ?_
      refine wq_l 40 d256_38 rfl rfl rfl rfl ?_
      refine wq_b 108 43 d256_40 rfl (by decide) rfl (fun _ => ?_) (fun w => absurd (by decide) w)
      rw [hF1 f28] at tail
      exact tail _ _ _ _ _ _ (rp_Se h2 rfl (by omega)) (rp_Ek k2)
    · -- pc 31
      have f28 := b2y c28
      skip
      refine wq_k 32 1 d256_31 (by decide) rfl ?_
      refine wq_g 36 d256_32 (by decide) ?_
      refine wq_s 38 d256_36 rfl rfl (Nat.le_of_ble_eq_true rfl) rfl rfl ?_
      obtain ⟨K, eK, e2⟩ := hF2 f28
      rw [e2] at tail
      have q1 := xe_ln (rp_lv h2 z2)
      have n1 := hN.1
      have n2 := hN.2.2.2.1
      have hbd := hS.2.2
      refine rpl256 (s := s) hN (by omega) K _ _ _ _ _ _ ⟨rp_Se h2 rfl (by omega), fun _ => by show h.1 + 1 ≤ _; omega⟩ rp_li (fun _ => by omega) (fun σ' h' a5 a6 a7 a8 b1 b2 => tail _ _ _ _ _ _ (rp_Se b1.1 rfl (by omega)) (rp_Ee (rp_Et rp_li (rp_Ek k2) b2) (List.nil_append _)))
theorem rp242 {d : Nat} {Q : Option Value → pm_S → Prop} {t : Nat → Nat} {M n : Nat} {σ : pm_S} {h : rp_H} {c : pg_C} {s : Nat} {body : Nat} {B : pg_P} (hN : rp_n t M n) (hs : s ≤ 2600) (hb : body < h.1) (hf : pg_is (pt_T t M n) 41 c = true) (hS : rp_S t M n σ c h s) (hQ : ∀ σ' h', rp_S t M n σ' (pg_stmt (pt_T t M n) B c).1 h' (s + 8) → rp_E t M n σ h σ' h' body (pg_stmt (pt_T t M n) B c).2 → Q none σ') : pm_call pm_Y0 (d + 16) 242 [.ref 10, .int (nI body)] σ Q := by
  rw [xs_stn41 _ _ _ hf] at hQ
  have hl := pg_isl hf (by decide)
  have z0 := rp_l0 hS hl.1
  have hpl := rp_pl hS z0
  have hnv : ∀ k, rp_nk k = true → rp_V t M n k (σ.1 10 5) (pg_v (pt_T t M n) c) := fun k hk => rp_nm2 hk hS hf
  have hx41 := pg_xs hl.1 hf
  have n52 := pg_nx (T := pt_T t M n) (k := 52) hl.1 (by decide)
  have n54 := pg_nx (T := pt_T t M n) (k := 54) hl.1 (by decide)
  have qs := xe_ls hl.1
  rw [n52] at hQ
  refine wq_m m242 (Nat.le_of_ble_eq_true rfl) (by decide) rfl ?_
  refine wq_l 1 d242_0 rfl rfl rfl rfl ?_
  refine wq_gi (ci := 10) (j := 4) 4 d242_1 rfl rfl rfl rfl ?_
  refine wq_s 5 d242_4 rfl rfl (Nat.le_of_ble_eq_true rfl) rfl rfl ?_
  refine wq_l 6 d242_5 rfl rfl rfl rfl ?_
  refine wq_gi (ci := 10) (j := 5) 9 d242_6 rfl rfl rfl rfl ?_
  refine wq_s 10 d242_9 rfl rfl (Nat.le_of_ble_eq_true rfl) rfl rfl ?_
  refine wq_l 11 d242_10 rfl rfl rfl rfl ?_
  refine wq_v 14 [] d242_11 rfl rfl m203 rfl rfl (Nat.le_of_ble_eq_true rfl) rfl (rp_go hN hl hS (fun σ1 h1 k1 => ?_))
  refine wq_l 15 d242_14 rfl rfl rfl rfl ?_
  refine wq_k 18 400 d242_15 (by decide) rfl ?_
  refine wq_v 21 [_] d242_18 rfl rfl m224 rfl rfl (Nat.le_of_ble_eq_true rfl) rfl (rp_is (k := 47) hN (by decide) (by decide) h1 ?_)
  refine wq_b 40 24 d242_21 rfl (by decide) rfl (fun c21 => ?_) (fun c21 => ?_)
  · -- pc 40
    have f21 := b2z c21
    refine wq_l 41 d242_40 rfl rfl rfl rfl ?_
    refine wq_k 43 91 d242_41 (by decide) rfl ?_
    refine wq_v 46 [_] d242_43 rfl rfl m238 rfl rfl (Nat.le_of_ble_eq_true rfl) rfl (rp_sg (k := 54) hN (by decide) (by decide) h1 ?_)
    refine wq_b 110 49 d242_46 rfl (by decide) rfl (fun c46 => ?_) (fun c46 => ?_)
    · -- pc 110
      have f46 := b2z c46
      refine wq_l 111 d242_110 rfl rfl rfl rfl ?_
      refine wq_k 113 40 d242_111 (by decide) rfl ?_
      refine wq_v 116 [_] d242_113 rfl rfl m238 rfl rfl (Nat.le_of_ble_eq_true rfl) rfl (rp_sg (k := 52) hN (by decide) (by decide) h1 ?_)
      refine wq_b 129 119 d242_116 rfl (by decide) rfl (fun c116 => ?_) (fun c116 => ?_)
      · -- pc 129
        have f116 := b2z c116
        skip
        refine wq_l 130 d242_129 rfl rfl rfl rfl ?_
        refine wq_v 133 [] d242_130 rfl rfl m230 rfl rfl (Nat.le_of_ble_eq_true rfl) rfl (rp_ref hN h1 (fun σ3 h3 k3 => ?_))
        refine wq_rv d242_133 ?_
        rw [if_neg (by rw [f116]; decide), pg_asg_c, pg_targ_c, n54, if_neg (by rw [f46]; decide), hx41] at hQ
        dsimp only at hQ
        rw [xs_ef f21] at hQ
        have dd : pg_dead (pt_T t M n) (pg_stop (pg_stp c)) := pg_stopd
        have d2 := pg_dE (pt_T t M n) _ dd
        have d3 := pg_fexp (pt_T t M n) (k := 57) (by decide) _ (pg_deq_d dd d2)
        exact hQ _ _ (rp_Sd h3 dd (pg_deq_t d2 d3) (by omega)) (rp_Ed (rp_Wk (rp_Wk rp_Wr k1) k3) (rp_d0 h3 dd))
      · -- pc 119
        have f116 := b2n c116
        rw [if_pos f116, pg_inv_c] at hQ
        dsimp only at hQ
        refine wq_l 120 d242_119 rfl rfl rfl rfl ?_
        refine wq_l 121 d242_120 rfl rfl rfl rfl ?_
        refine wq_l 122 d242_121 rfl rfl rfl rfl ?_
        refine wq_l 123 d242_122 rfl rfl rfl rfl ?_
        refine wq_v 126 [_, _, _] d242_123 rfl rfl m256 rfl rfl (Nat.le_of_ble_eq_true rfl) rfl (rp256 (s := s) (p := pg_pl (pt_T t M n) c) (v := pg_v (pt_T t M n) c) hN (by omega) hb f116 (by omega) h1 (fun w => ⟨hpl, hnv 13 (by decide)⟩) (fun σ3 h3 a1 a2 => ?_))
        have a2 := rp_Et hb (rp_Ek (h := h) k1) a2
        rw [List.nil_append] at a2
        refine wq_g 133 d242_126 (by decide) ?_
        refine wq_rv d242_133 ?_
        exact hQ _ _ a1 a2
    · -- pc 49
      have f46 := b2n c46
      rw [if_neg (by rw [xs_isf f46 (show 54 ≠ 52 by decide)]; decide), pg_asg_c, pg_targ_c, n54, if_pos f46, pg_elem_c, pg_xd] at hQ
      dsimp only at hQ
      refine wq_l 50 d242_49 rfl rfl rfl rfl ?_
      refine wq_k 52 32 d242_50 (by decide) rfl ?_
      refine wq_l 53 d242_52 rfl rfl rfl rfl ?_
      refine wq_l 54 d242_53 rfl rfl rfl rfl ?_
      refine wq_v 57 [_, _, _] d242_54 rfl rfl m202 rfl rfl (Nat.le_of_ble_eq_true rfl) rfl (rp_mk hN (by omega) h1 (fun σ2 h2 m2 => ?_))
      refine wq_s 59 d242_57 rfl rfl (Nat.le_of_ble_eq_true rfl) rfl rfl ?_
      refine wq_l 60 d242_59 rfl rfl rfl rfl ?_
      refine wq_v 63 [] d242_60 rfl rfl m248 rfl rfl (Nat.le_of_ble_eq_true rfl) rfl (rp_deep hN (pg_isl f46 (by decide)) h2 (fun σ3 h3 k3 => ?_))
      refine wq_l 64 d242_63 rfl rfl rfl rfl ?_
      refine wq_gi (ci := 10) (j := 6) 67 d242_64 rfl rfl rfl rfl ?_
      refine wq_b 76 70 d242_67 rfl (by decide) rfl (fun c67 => ?_) (fun c67 => ?_)
      · -- pc 76
        have dd := rp_dd h3 c67
        have g6 : rp_E t M n σ2 (rp_nw h) σ3 (rp_nw h) h.1 (pg_E (pt_T t M n) (pg_opn (pg_stp c))).2 := rp_Ed (rp_Wk rp_Wr k3) c67
        have h5 : rp_S t M n σ3 (pg_E (pt_T t M n) (pg_opn (pg_stp c))).1 (rp_nw h) (s + 4) := rp_Sd h3 dd (pg_dE _ _ dd) (by omega)
        refine wq_l 77 d242_76 rfl rfl rfl rfl ?_
        refine wq_k 80 293 d242_77 (by decide) rfl ?_
        refine wq_v 83 [_] d242_80 rfl rfl m229 rfl rfl (Nat.le_of_ble_eq_true rfl) rfl (rp_want (k := 55) hN (by decide) (by decide) h5 (fun σ6 h6 k6 => ?_))
        refine wq_l 84 d242_83 rfl rfl rfl rfl ?_
        refine wq_a 85 d242_84 rfl rfl ?_
        refine wq_gi (ci := 10) (j := 8) 88 d242_85 rfl rfl rfl rfl ?_
        refine wq_k 89 1 d242_88 (by decide) rfl ?_
        refine wq_a 90 d242_89 rfl rfl ?_
        refine wq_pf (ci := 10) (j := 8) 93 d242_90 rfl rfl rfl ⟨rfl, rfl⟩ rfl ?_
        have h7 := rp_dec h6 (fun w => by
          obtain ⟨x1, x2, x3⟩ := pg_exl (by decide) w
          have o1 := pg_oE (pt_T t M n) _ x1
          have o2 := xe_ln (pg_bk (pg_dE (pt_T t M n)) x1)
          rw [pg_oexp]
          omega)
        have k7 := rp_Kt k6 (rp_pi8 (σ := σ6) (x := σ6.1 10 8 - 1))
        have g8 := rp_Et rp_lw g6 (rp_Ek k7)
        rw [List.append_nil] at g8
        have o8 := rp_kO k1 (rp_Mo (k := 32) (p := pg_pl (pt_T t M n) c) (v := pg_v (pt_T t M n) c) h1.2.1 m2 g8 (fun w => ⟨rfl, hpl, hnv 32 (by decide)⟩))
        refine wq_l 94 d242_93 rfl rfl rfl rfl ?_
        refine wq_gi (ci := 10) (j := 6) 97 d242_94 rfl rfl rfl rfl ?_
        refine wq_b 107 100 d242_97 rfl (by decide) rfl (fun c97 => ?_) (fun c97 => ?_)
        · -- pc 107
          refine wq_g 133 d242_107 (by decide) ?_
          refine wq_rv d242_133 ?_
          have dd := rp_dd h7 c97
          refine hQ _ _ (rp_Sd h7 dd ?_ (by omega)) (rp_Ed o8.1 c97)
          have d1 := pg_fexp (pt_T t M n) (k := 47) (by decide) _ dd
          have d2 := pg_dE (pt_T t M n) _ (pg_deq_d dd d1)
          have d3 := pg_fexp (pt_T t M n) (k := 57) (by decide) _ (pg_deq_d (pg_deq_d dd d1) d2)
          exact pg_deq_t d1 (pg_deq_t d2 d3)
        · -- pc 100
          skip
          refine wq_l 101 d242_100 rfl rfl rfl rfl ?_
          refine wq_l 102 d242_101 rfl rfl rfl rfl ?_
          refine wq_l 104 d242_102 rfl rfl rfl rfl ?_
          refine wq_v 107 [_, _] d242_104 rfl rfl m243 rfl rfl (Nat.le_of_ble_eq_true rfl) rfl (rp243 (s := s + 4) hN (by omega) hb h7 o8 (fun σ9 h9 a1 a2 => ?_))
          have a1 := rp_Se (s' := s + 8) a1 rfl (by omega)
          refine wq_g 133 d242_107 (by decide) ?_
          refine wq_rv d242_133 ?_
          exact hQ _ _ a1 a2
      · -- pc 70
        skip
        refine wq_l 71 d242_70 rfl rfl rfl rfl ?_
        refine wq_l 73 d242_71 rfl rfl rfl rfl ?_
        refine wq_v 76 [_] d242_73 rfl rfl m244 rfl rfl (Nat.le_of_ble_eq_true rfl) rfl (rp244 (s := s + 1) (to := h.1) hN (by omega) rp_lw h3 (fun σ4 h4 h5 g5 => ?_))
        have g6 := rp_Et rp_lw (rp_Ek (h := rp_nw h) k3) g5
        rw [List.nil_append] at g6
        refine wq_l 77 d242_76 rfl rfl rfl rfl ?_
        refine wq_k 80 293 d242_77 (by decide) rfl ?_
        refine wq_v 83 [_] d242_80 rfl rfl m229 rfl rfl (Nat.le_of_ble_eq_true rfl) rfl (rp_want (k := 55) hN (by decide) (by decide) h5 (fun σ6 h6 k6 => ?_))
        refine wq_l 84 d242_83 rfl rfl rfl rfl ?_
        refine wq_a 85 d242_84 rfl rfl ?_
        refine wq_gi (ci := 10) (j := 8) 88 d242_85 rfl rfl rfl rfl ?_
        refine wq_k 89 1 d242_88 (by decide) rfl ?_
        refine wq_a 90 d242_89 rfl rfl ?_
        refine wq_pf (ci := 10) (j := 8) 93 d242_90 rfl rfl rfl ⟨rfl, rfl⟩ rfl ?_
        have h7 := rp_dec h6 (fun w => by
          obtain ⟨x1, x2, x3⟩ := pg_exl (by decide) w
          have o1 := pg_oE (pt_T t M n) _ x1
          have o2 := xe_ln (pg_bk (pg_dE (pt_T t M n)) x1)
          rw [pg_oexp]
          omega)
        have k7 := rp_Kt k6 (rp_pi8 (σ := σ6) (x := σ6.1 10 8 - 1))
        have g8 := rp_Et rp_lw g6 (rp_Ek k7)
        rw [List.append_nil] at g8
        have o8 := rp_kO k1 (rp_Mo (k := 32) (p := pg_pl (pt_T t M n) c) (v := pg_v (pt_T t M n) c) h1.2.1 m2 g8 (fun w => ⟨rfl, hpl, hnv 32 (by decide)⟩))
        refine wq_l 94 d242_93 rfl rfl rfl rfl ?_
        refine wq_gi (ci := 10) (j := 6) 97 d242_94 rfl rfl rfl rfl ?_
        refine wq_b 107 100 d242_97 rfl (by decide) rfl (fun c97 => ?_) (fun c97 => ?_)
        · -- pc 107
          refine wq_g 133 d242_107 (by decide) ?_
          refine wq_rv d242_133 ?_
          have dd := rp_dd h7 c97
          refine hQ _ _ (rp_Sd h7 dd ?_ (by omega)) (rp_Ed o8.1 c97)
          have d1 := pg_fexp (pt_T t M n) (k := 47) (by decide) _ dd
          have d2 := pg_dE (pt_T t M n) _ (pg_deq_d dd d1)
          have d3 := pg_fexp (pt_T t M n) (k := 57) (by decide) _ (pg_deq_d (pg_deq_d dd d1) d2)
          exact pg_deq_t d1 (pg_deq_t d2 d3)
        · -- pc 100
          skip
          refine wq_l 101 d242_100 rfl rfl rfl rfl ?_
          refine wq_l 102 d242_101 rfl rfl rfl rfl ?_
          refine wq_l 104 d242_102 rfl rfl rfl rfl ?_
          refine wq_v 107 [_, _] d242_104 rfl rfl m243 rfl rfl (Nat.le_of_ble_eq_true rfl) rfl (rp243 (s := s + 4) hN (by omega) hb h7 o8 (fun σ9 h9 a1 a2 => ?_))
          have a1 := rp_Se (s' := s + 8) a1 rfl (by omega)
          refine wq_g 133 d242_107 (by decide) ?_
          refine wq_rv d242_133 ?_
          exact hQ _ _ a1 a2
  · -- pc 24
    have f21 := b2n c21
    skip
    refine wq_l 25 d242_24 rfl rfl rfl rfl ?_
    refine wq_l 26 d242_25 rfl rfl rfl rfl ?_
    refine wq_l 27 d242_26 rfl rfl rfl rfl ?_
    refine wq_k 29 6 d242_27 (by decide) rfl ?_
    refine wq_l 30 d242_29 rfl rfl rfl rfl ?_
    refine wq_l 31 d242_30 rfl rfl rfl rfl ?_
    refine wq_v 34 [_, _, _] d242_31 rfl rfl m202 rfl rfl (Nat.le_of_ble_eq_true rfl) rfl (rp_mk hN (by omega) h1 (fun σ2 h2 m2 => ?_))
    have o2 := rp_kO k1 (rp_Oq_o (rp_Oq1 (k := 6) (p := pg_pl (pt_T t M n) c) (v := pg_v (pt_T t M n) c) h1.2.1 m2 (fun w => ⟨hpl, hnv 6 (by decide)⟩)))
    rw [if_neg (by rw [xs_isf f21 (show 47 ≠ 52 by decide)]; decide), pg_asg_c, pg_targ_c, n54, if_neg (by rw [xs_isf f21 (show 47 ≠ 54 by decide)]; decide), hx41] at hQ
    dsimp only at hQ
    refine wq_v 37 [_, _] d242_34 rfl rfl m243 rfl rfl (Nat.le_of_ble_eq_true rfl) rfl (rp243 (s := s + 1) hN (by omega) hb h2 o2 (fun σ3 h3 a1 a2 => ?_))
    have a1 := rp_Se (s' := s + 8) a1 rfl (by omega)
    refine wq_g 133 d242_37 (by decide) ?_
    refine wq_rv d242_133 ?_
    exact hQ _ _ a1 a2
