theorem xs_dxg {t : Nat → Nat} {M n : Nat} {σ2 : pm_S} {h2 : rp_H} {c2 c' : pg_C} {s D : Nat} (hS : rp_S t M n σ2 c2 h2 (s + D)) (z : ¬ σ2.1 10 6 = 0) (q : pg_deq c2 c') : rp_T2 t M n σ2 c' h2 s D := ⟨rp_Sd hS (rp_dd hS z) q (Nat.le_refl _), fun y => absurd y z⟩
theorem xl_s (k : Nat) (p : pg_C → Nat) (v : pg_C → Int32) (a : pg_P) (e : pg_C → pg_C) (c : pg_C) : pg_node k p v (pg_seq a (pg_tok e)) c = (e (a c).1, (k, p c, v c, (a c).2.length + 1) :: (a c).2) := by
  rw [pg_node_c, pg_seq_c, pg_tok_c, List.append_nil]
theorem pg_row_k (T : pg_T) (c : pg_C) : ∃ K, K = 8191 ∧ pg_row T c = (pg_exp T 57 (xl_R T K (pg_cell T c).1).1, (24, pg_pl T c, 0, ((pg_cell T c).2 ++ (xl_R T K (pg_cell T c).1).2).length + 1) :: ((pg_cell T c).2 ++ (xl_R T K (pg_cell T c).1).2)) := by
  refine ⟨8191, rfl, ?_⟩
  have e : ∀ K, pg_node 24 (pg_pl T) (fun _ => 0) (pg_seq (pg_cells T (K + 1)) (pg_tok (pg_exp T 57))) c = (pg_exp T 57 (xl_R T K (pg_cell T c).1).1, (24, pg_pl T c, 0, ((pg_cell T c).2 ++ (xl_R T K (pg_cell T c).1).2).length + 1) :: ((pg_cell T c).2 ++ (xl_R T K (pg_cell T c).1).2)) := fun K => by
    rw [xl_s, xl_c, pg_seq_c]
  exact e 8191
theorem pg_row_n (T : pg_T) (c : pg_C) : 1 ≤ (pg_row T c).2.length := by
  obtain ⟨K, _, e⟩ := pg_row_k T c
  rw [e, List.length_cons]
  omega
theorem xl_rno (T : pg_T) (c : pg_C) (h : pg_isc T c = false) : (pg_row T c).1 = pg_stop c := by
  obtain ⟨K, _, e⟩ := pg_row_k T c
  rw [e]
  show pg_exp T 57 (xl_R T K (pg_cell T c).1).1 = _
  rw [xl_no T c h, xl_0 _ _ _ (pg_gis _ (by decide) _ pg_stopd) (pg_gisc _ _ pg_stopd), xs_ef (pg_gis T (k := 57) (by decide) _ pg_stopd), pg_ss]
theorem rp236 {d : Nat} {Q : Option Value → pm_S → Prop} {t : Nat → Nat} {M n : Nat} {σ : pm_S} {h : rp_H} {c : pg_C} {s : Nat} {rg : Nat} (hN : rp_n t M n) (hs : s ≤ 2500) (ht : rg < h.1) (hc1 : 1 ≤ c.1) (z : σ.1 10 6 = 0) (hS : rp_S t M n σ c h s) (hQ : ∀ σ' h', rp_S t M n σ' (pg_row (pt_T t M n) c).1 h' (s + 9) → rp_E t M n σ h σ' h' rg (pg_row (pt_T t M n) c).2 → Q none σ') : pm_call pm_Y0 (d + 12) 236 [.ref 10, .int (nI rg)] σ Q := by
  have hpl := rp_pl hS z
  obtain ⟨K, eK, er⟩ := pg_row_k (pt_T t M n) c
  rw [er] at hQ
  dsimp only at hQ
  have n1 := hN.1
  have n2 := hN.2.2.2.1
  have hbd := hS.2.2
  refine wq_m m236 (Nat.le_of_ble_eq_true rfl) (by decide) rfl ?_
  refine wq_l 1 d236_0 rfl rfl rfl rfl ?_
  refine wq_l 2 d236_1 rfl rfl rfl rfl ?_
  refine wq_k 4 24 d236_2 (by decide) rfl ?_
  refine wq_l 5 d236_4 rfl rfl rfl rfl ?_
  refine wq_gi (ci := 10) (j := 4) 8 d236_5 rfl rfl rfl rfl ?_
  refine wq_k 9 0 d236_8 (by decide) rfl ?_
  refine wq_v 12 [_, _, _, _] d236_9 rfl rfl m226 rfl rfl (Nat.le_of_ble_eq_true rfl) rfl (rp_mkin (to := rg) hN (by omega) ht hS (fun σ1 h1 m1 => ?_))
  refine wq_s 13 d236_12 rfl rfl (Nat.le_of_ble_eq_true rfl) rfl rfl ?_
  refine wq_l 14 d236_13 rfl rfl rfl rfl ?_
  refine wq_l 15 d236_14 rfl rfl rfl rfl ?_
  refine wq_v 18 [_] d236_15 rfl rfl m237 rfl rfl (Nat.le_of_ble_eq_true rfl) rfl (rp237 (s := s + 1) hN (by omega) rp_li h1 (fun σ2 h2' h2 e2 => ?_))
  have hT2 := rp_t2 (D := 8) (pg_Lcell (pt_T t M n)) h1 (rp_Se h2 rfl (by omega)) e2
  refine rpl236 (s := s + 1) hN (by omega) K _ _ _ hT2 (Nat.lt_of_lt_of_le rp_li e2.2.1) (fun y => by have := rp_t3 (pg_Lcell (pt_T t M n)) (pg_cell_n _ _) (rp_lv h2 y); omega) (fun σ3 h3 b1 b2 => ?_)
  refine wq_l 71 d236_70 rfl rfl rfl rfl ?_
  refine wq_k 74 259 d236_71 (by decide) rfl ?_
  refine wq_v 77 [_] d236_74 rfl rfl m229 rfl rfl (Nat.le_of_ble_eq_true rfl) rfl (rp_want (k := 57) hN (by decide) (by decide) b1 (fun σ4 h4 k4 => ?_))
  rw [xs_fex (by decide)] at h4
  refine wq_rv d236_77 ?_
  exact hQ _ _ (rp_Se h4 rfl (by omega)) (rp_Mn ht m1 (rp_Ee (rp_Et rp_li (rp_Et rp_li e2 b2) (rp_Ek k4)) (List.append_nil _)) (fun _ => ⟨rfl, hpl, rp_V0 (by decide)⟩))
theorem rpl235i {d : Nat} {Q : Option Value → pm_S → Prop} {t : Nat → Nat} {M n : Nat} {s nd : Nat} {a1 a2 : Value} (hN : rp_n t M n) (hs : s ≤ 2400) : ∀ (kk : Nat) (σ : pm_S) (c : pg_C) (h : rp_H), rp_T2 t M n σ c h s 12 → nd < h.1 → (σ.1 10 6 = 0 → n ≤ c.1 + kk ∧ 1 ≤ c.1) → (∀ σ' h', rp_S t M n σ' (xs_fe (pt_T t M n) 40 (pg_whl (pg_isc (pt_T t M n)) (pg_row (pt_T t M n)) kk c).1) h' (s + 12) → rp_E t M n σ h σ' h' nd (pg_whl (pg_isc (pt_T t M n)) (pg_row (pt_T t M n)) kk c).2 → pm_WP pm_Y0 (pm_call pm_Y0 (d + 12)) 10 prog_14_method_43_code none Q 74 [.ref 10, a1, a2, .int (nI nd)] [] σ') → pm_WP pm_Y0 (pm_call pm_Y0 (d + 12)) 10 prog_14_method_43_code none Q 49 [.ref 10, a1, a2, .int (nI nd)] [] σ := by
  intro kk
  have dead : ∀ kk (σ : pm_S) (c : pg_C) (h : rp_H), rp_S t M n σ c h (s + 12) → ¬ σ.1 10 6 = 0 → (∀ σ' h', rp_S t M n σ' (xs_fe (pt_T t M n) 40 (pg_whl (pg_isc (pt_T t M n)) (pg_row (pt_T t M n)) kk c).1) h' (s + 12) → rp_E t M n σ h σ' h' nd (pg_whl (pg_isc (pt_T t M n)) (pg_row (pt_T t M n)) kk c).2 → pm_WP pm_Y0 (pm_call pm_Y0 (d + 12)) 10 prog_14_method_43_code none Q 74 [.ref 10, a1, a2, .int (nI nd)] [] σ') → pm_WP pm_Y0 (pm_call pm_Y0 (d + 12)) 10 prog_14_method_43_code none Q 49 [.ref 10, a1, a2, .int (nI nd)] [] σ := by
    intro kk σ c h hS z hX
    have dd := rp_dd hS z
    refine wq_l 50 d235_49 rfl rfl rfl rfl ?_
    refine wq_gi (ci := 10) (j := 6) 53 d235_50 rfl rfl rfl rfl ?_
    refine wq_b 74 56 d235_53 rfl (by decide) rfl (fun c53 => ?_) (fun c53 => absurd (z) c53)
    exact hX σ h (rp_Sd hS dd (pg_deq_t (pg_dwhl (pg_gisc _) kk c dd) (xs_fed (by decide) (pg_deq_d dd (pg_dwhl (pg_gisc _) kk c dd)))) (Nat.le_refl _)) (rp_Ed rp_Wr z)
  induction kk with
  | zero =>
    intro σ c h hT ht hl hX
    by_cases z : σ.1 10 6 = 0
    · have := (hl z).1
      have := hT.1.1.2.1
      omega
    · exact dead 0 σ c h hT.1 z hX
  | succ kk ih =>
    intro σ c h hT ht hl hX
    by_cases z : σ.1 10 6 = 0
    · have hS := rp_t1 hT z
      obtain ⟨k1, k2, k3⟩ := rp_k6 hN hS z
      have htk := rp_tk hS z
      have t40 : (σ.1 10 3 = 140 ↔ pg_is (pt_T t M n) 40 c = true) := by
        rw [htk]
        constructor
        · intro q
          rcases rx_ci _ k1 40 (by decide) (q.trans (by decide)) with y | y | y | y | y
          · unfold pg_is; rw [y]; rfl
          · exact absurd y k2
          · exact absurd y k3
          · exact absurd y (by decide)
          · exact absurd y (by decide)
        · intro q; rw [pg_isk q]; decide
      rw [pg_whl_c] at hX
      refine wq_l 50 d235_49 rfl rfl rfl rfl ?_
      refine wq_gi (ci := 10) (j := 6) 53 d235_50 rfl rfl rfl rfl ?_
      refine wq_b 74 56 d235_53 rfl (by decide) rfl (fun c53 => absurd c53 (fun y => y z)) (fun c53 => ?_)
      refine wq_l 57 d235_56 rfl rfl rfl rfl ?_
      refine wq_gi (ci := 10) (j := 3) 60 d235_57 rfl rfl rfl rfl ?_
      refine wq_k 63 140 d235_60 (by decide) rfl ?_
      refine wq_b 74 66 d235_63 rfl (by decide) rfl (fun c63 => ?_) (fun c63 => ?_)
      · -- pc 74
        have f40 := t40.mp c63
        have qi : pg_isc (pt_T t M n) c = false := by unfold pg_isc pg_any; rw [pg_isk f40]; decide
        rw [if_neg (by rw [qi]; decide)] at hX
        refine hX σ h ?_ rp_Er
        unfold xs_fe
        rw [if_pos f40]
        exact hT.1
      · -- pc 66
        refine wq_l 67 d235_66 rfl rfl rfl rfl ?_
        refine wq_l 68 d235_67 rfl rfl rfl rfl ?_
        refine wq_v 71 [_] d235_68 rfl rfl m236 rfl rfl (Nat.le_of_ble_eq_true rfl) rfl (rp236 (s := s) hN (by omega) ht (hl z).2 z hS (fun σ3 h3' h3 e3 => ?_))
        refine wq_g 49 d235_71 (by decide) ?_
        cases qi : pg_isc (pt_T t M n) c with
        | true =>
          rw [if_pos qi, pg_seq_c] at hX
          dsimp only at hX
          have hT3 := rp_t2 (D := 12) (pg_Lrow (pt_T t M n)) hS (rp_Se h3 rfl (by omega)) e3
          refine ih _ _ _ hT3 (Nat.lt_of_lt_of_le ht e3.2.1) (fun y => by have := hl z; have := rp_t3 (pg_Lrow (pt_T t M n)) (pg_row_n _ _) (rp_lv h3 y); omega) (fun σ' h' b1 b2 => hX σ' h' b1 (rp_Et ht e3 b2))
        | false =>
          rw [if_neg (by rw [qi]; decide)] at hX
          have h3' : rp_S t M n σ3 (pg_stop c) h3' (s + 12) := rp_Se h3 (xl_rno _ _ qi) (by omega)
          have hd3 := rp_d0 h3' pg_stopd
          refine dead 0 σ3 (pg_stop c) _ h3' hd3 (fun σ' h' b1 b2 => ?_)
          refine hX σ' h' ?_ (rp_Ed (rp_Wt (rp_We e3) (rp_We b2)) (fun y => hd3 (b2.2.2.1 y)))
          have e40 : pg_is (pt_T t M n) 40 c = false := by cases qq : pg_is (pt_T t M n) 40 c with | false => rfl | true => exact absurd (t40.mpr qq) c63
          have b1 : rp_S t M n σ' (xs_fe (pt_T t M n) 40 (pg_stop c)) h' (s + 12) := b1
          unfold xs_fe at b1 ⊢
          rw [if_neg (by rw [e40]; decide)]
          rw [if_neg (by rw [pg_gis (pt_T t M n) (k := 40) (by decide) _ pg_stopd]; decide), pg_ss] at b1
          exact b1
    · exact dead (kk + 1) σ c h hT.1 z hX
theorem xl_s2 (k : Nat) (p : pg_C → Nat) (v : pg_C → Int32) (o e : pg_C → pg_C) (a b : pg_P) (c : pg_C) : pg_node k p v (pg_seq (pg_tok o) (pg_seq a (pg_seq b (pg_tok e)))) c = (e (b (a (o c)).1).1, (k, p c, v c, ((a (o c)).2 ++ (b (a (o c)).1).2).length + 1) :: ((a (o c)).2 ++ (b (a (o c)).1).2)) := by
  rw [pg_node_c, pg_seq_c, pg_seq_c, pg_seq_c, pg_tok_c, pg_tok_c, List.nil_append, List.append_nil]
theorem pg_rung_k (T : pg_T) (c : pg_C) : ∃ K, K = 8192 ∧ pg_rung T c = (pg_exp T 40 (pg_whl (pg_isc T) (pg_row T) K (pg_row T (pg_stp c)).1).1, (23, pg_pl T c, 0, ((pg_row T (pg_stp c)).2 ++ (pg_whl (pg_isc T) (pg_row T) K (pg_row T (pg_stp c)).1).2).length + 1) :: ((pg_row T (pg_stp c)).2 ++ (pg_whl (pg_isc T) (pg_row T) K (pg_row T (pg_stp c)).1).2)) := by
  refine ⟨pg_M, rfl, ?_⟩
  unfold pg_rung
  exact xl_s2 23 _ _ _ _ _ _ c
theorem pg_rung_n (T : pg_T) (c : pg_C) : 1 ≤ (pg_rung T c).2.length := by
  obtain ⟨K, _, e⟩ := pg_rung_k T c
  rw [e, List.length_cons]
  omega
theorem xl_row {d : Nat} {Q : Option Value → pm_S → Prop} {t : Nat → Nat} {M n : Nat} {σ : pm_S} {h : rp_H} {c : pg_C} {s : Nat} {rg : Nat} (hN : rp_n t M n) (hs : s ≤ 2500) (ht : rg < h.1) (hc1 : 1 ≤ c.1) (hS : rp_S t M n σ c h s) (hQ : ∀ σ' h', rp_S t M n σ' (pg_row (pt_T t M n) c).1 h' (s + 12) → rp_E t M n σ h σ' h' rg (pg_row (pt_T t M n) c).2 → Q none σ') : pm_call pm_Y0 (d + 12) 236 [.ref 10, .int (nI rg)] σ Q := by
  by_cases z : σ.1 10 6 = 0
  · exact rp236 hN hs ht hc1 z hS (fun σ' h' a1 a2 => hQ σ' h' (rp_Se a1 rfl (by omega)) a2)
  · have dd := rp_dd hS z
    refine wq_m m236 (Nat.le_of_ble_eq_true rfl) (by decide) rfl ?_
    refine wq_l 1 d236_0 rfl rfl rfl rfl ?_
    refine wq_l 2 d236_1 rfl rfl rfl rfl ?_
    refine wq_k 4 24 d236_2 (by decide) rfl ?_
    refine wq_l 5 d236_4 rfl rfl rfl rfl ?_
    refine wq_gi (ci := 10) (j := 4) 8 d236_5 rfl rfl rfl rfl ?_
    refine wq_k 9 0 d236_8 (by decide) rfl ?_
    refine wq_v 12 [_, _, _, _] d236_9 rfl rfl m226 rfl rfl (Nat.le_of_ble_eq_true rfl) rfl (rp_mkin (to := rg) hN (by omega) ht hS (fun σ1 h1 m1 => ?_))
    refine wq_s 13 d236_12 rfl rfl (Nat.le_of_ble_eq_true rfl) rfl rfl ?_
    refine wq_l 14 d236_13 rfl rfl rfl rfl ?_
    refine wq_l 15 d236_14 rfl rfl rfl rfl ?_
    refine wq_v 18 [_] d236_15 rfl rfl m237 rfl rfl (Nat.le_of_ble_eq_true rfl) rfl (rp237 (s := s + 1) hN (by omega) rp_li h1 (fun σ2 h2' h2 e2 => ?_))
    have bk : ¬ σ2.1 10 6 = 0 := fun y => z (m1.2.1 (e2.2.2.1 y))
    have d2 := rp_dd h2 bk
    refine wq_l 19 d236_18 rfl rfl rfl rfl ?_
    refine wq_gi (ci := 10) (j := 6) 22 d236_19 rfl rfl rfl rfl ?_
    refine wq_b 70 25 d236_22 rfl (by decide) rfl (fun c22 => ?_) (fun c22 => absurd (bk) c22)
    refine wq_l 71 d236_70 rfl rfl rfl rfl ?_
    refine wq_k 74 259 d236_71 (by decide) rfl ?_
    refine wq_v 77 [_] d236_74 rfl rfl m229 rfl rfl (Nat.le_of_ble_eq_true rfl) rfl (rp_want (k := 57) hN (by decide) (by decide) h2 (fun σ4 h4 k4 => ?_))
    refine wq_rv d236_77 ?_
    have bk4 : ¬ σ4.1 10 6 = 0 := fun y => bk (k4.2 y)
    have w4 : rp_W σ h σ4 h2' := rp_We (t := t) (M := M) (n := n) (to := rg) (rp_Mn (k := 24) (p := 0) (v := 0) ht m1 (rp_Et rp_li e2 (rp_Ek k4)) (fun y => absurd y bk4))
    refine hQ _ _ (rp_Sd h4 (rp_dd h4 bk4) ?_ (by omega)) (rp_Ed w4 bk4)
    obtain ⟨K, _, er⟩ := pg_row_k (pt_T t M n) c
    rw [er]
    show pg_deq _ (pg_exp (pt_T t M n) 57 (xl_R (pt_T t M n) K (pg_cell (pt_T t M n) c).1).1)
    rw [xl_0 _ _ _ (pg_gis _ (by decide) _ d2) (pg_gisc _ _ d2)]
    exact pg_deq_r _
theorem rpl235 {d : Nat} {Q : Option Value → pm_S → Prop} {t : Nat → Nat} {M n : Nat} {s nd : Nat} {a1 : Value} (hN : rp_n t M n) (hs : s ≤ 2300) : ∀ (kk : Nat) (σ : pm_S) (c : pg_C) (h : rp_H) (a3 : Value), rp_T2 t M n σ c h s 20 → nd < h.1 → (σ.1 10 6 = 0 → n ≤ c.1 + kk ∧ 1 ≤ c.1) → (∀ σ' h' a3, rp_T2 t M n σ' (pg_whl (pg_is (pt_T t M n) 39) (pg_rung (pt_T t M n)) kk c).1 h' s 20 → rp_E t M n σ h σ' h' nd (pg_whl (pg_is (pt_T t M n) 39) (pg_rung (pt_T t M n)) kk c).2 → pm_WP pm_Y0 (pm_call pm_Y0 (d + 12)) 10 prog_14_method_43_code none Q 84 [.ref 10, a1, .int (nI nd), a3] [] σ') → pm_WP pm_Y0 (pm_call pm_Y0 (d + 12)) 10 prog_14_method_43_code none Q 17 [.ref 10, a1, .int (nI nd), a3] [] σ := by
  intro kk
  induction kk with
  | zero =>
    intro σ c h a3 hT ht hl hX
    by_cases z : σ.1 10 6 = 0
    · have := (hl z).1
      have := hT.1.1.2.1
      omega
    · have dd := rp_dd hT.1 z
      refine wq_l 18 d235_17 rfl rfl rfl rfl ?_
      refine wq_k 21 139 d235_18 (by decide) rfl ?_
      refine wq_v 24 [_] d235_21 rfl rfl m224 rfl rfl (Nat.le_of_ble_eq_true rfl) rfl (rp_is (k := 39) hN (by decide) (by decide) hT.1 ?_)
      rw [pg_gis (pt_T t M n) (k := 39) (by decide) _ dd]
      refine wq_b 84 27 d235_24 rfl (by decide) rfl (fun c24 => ?_) (fun c24 => absurd (by decide) c24)
      exact hX σ h _ hT rp_Er
  | succ kk ih =>
    intro σ c h a3 hT ht hl hX
    rw [pg_whl_c] at hX
    cases q : pg_is (pt_T t M n) 39 c with
    | false =>
      rw [if_neg (by rw [q]; decide)] at hX
      refine wq_l 18 d235_17 rfl rfl rfl rfl ?_
      refine wq_k 21 139 d235_18 (by decide) rfl ?_
      refine wq_v 24 [_] d235_21 rfl rfl m224 rfl rfl (Nat.le_of_ble_eq_true rfl) rfl (rp_is (k := 39) hN (by decide) (by decide) hT.1 ?_)
      rw [q]
      refine wq_b 84 27 d235_24 rfl (by decide) rfl (fun c24 => ?_) (fun c24 => absurd (by decide) c24)
      exact hX σ h _ hT rp_Er
    | true =>
      rw [if_pos q, pg_seq_c] at hX
      dsimp only at hX
      have hlv := pg_isl q (by decide)
      have z := rp_l0 hT.1 hlv.1
      have hS := rp_t1 hT z
      have hpl := rp_pl hS z
      have qs := xe_ls hlv.1
      have n1 := hN.1
      have n2 := hN.2.2.2.1
      have hbd := hS.2.2
      obtain ⟨K, eK, er⟩ := pg_rung_k (pt_T t M n) c
      refine wq_l 18 d235_17 rfl rfl rfl rfl ?_
      refine wq_k 21 139 d235_18 (by decide) rfl ?_
      refine wq_v 24 [_] d235_21 rfl rfl m224 rfl rfl (Nat.le_of_ble_eq_true rfl) rfl (rp_is (k := 39) hN (by decide) (by decide) hS ?_)
      rw [q]
      refine wq_b 84 27 d235_24 rfl (by decide) rfl (fun c24 => absurd c24 (by decide)) (fun c24 => ?_)
      refine wq_l 28 d235_27 rfl rfl rfl rfl ?_
      refine wq_l 29 d235_28 rfl rfl rfl rfl ?_
      refine wq_k 31 23 d235_29 (by decide) rfl ?_
      refine wq_l 32 d235_31 rfl rfl rfl rfl ?_
      refine wq_gi (ci := 10) (j := 4) 35 d235_32 rfl rfl rfl rfl ?_
      refine wq_k 36 0 d235_35 (by decide) rfl ?_
      refine wq_v 39 [_, _, _, _] d235_36 rfl rfl m226 rfl rfl (Nat.le_of_ble_eq_true rfl) rfl (rp_mkin (to := nd) hN (by omega) ht hS (fun σ1 h1 m1 => ?_))
      refine wq_s 40 d235_39 rfl rfl (Nat.le_of_ble_eq_true rfl) rfl rfl ?_
      refine wq_l 41 d235_40 rfl rfl rfl rfl ?_
      refine wq_v 44 [] d235_41 rfl rfl m203 rfl rfl (Nat.le_of_ble_eq_true rfl) rfl (rp_go hN hlv h1 (fun σ2 h2 k2 => ?_))
      refine wq_l 45 d235_44 rfl rfl rfl rfl ?_
      refine wq_l 46 d235_45 rfl rfl rfl rfl ?_
      refine wq_v 49 [_] d235_46 rfl rfl m236 rfl rfl (Nat.le_of_ble_eq_true rfl) rfl (xl_row (s := s + 1) hN (by omega) rp_li (by omega) h2 (fun σ3 h3' h3 e3 => ?_))
      have hT3 := rp_t2 (D := 12) (pg_Lrow (pt_T t M n)) h2 (rp_Se h3 rfl (by omega)) e3
      refine rpl235i (s := s + 1) hN (by omega) K _ _ _ hT3 (Nat.lt_of_lt_of_le rp_li e3.2.1) (fun y => by have := rp_t3 (pg_Lrow (pt_T t M n)) (pg_row_n _ _) (rp_lv h3 y); omega) (fun σ4 h4 b1 b2 => ?_)
      refine wq_l 75 d235_74 rfl rfl rfl rfl ?_
      refine wq_k 78 140 d235_75 (by decide) rfl ?_
      refine wq_v 81 [_] d235_78 rfl rfl m229 rfl rfl (Nat.le_of_ble_eq_true rfl) rfl (rp_want (k := 40) hN (by decide) (by decide) b1 (fun σ5 h5 k5 => ?_))
      rw [xs_fex (by decide)] at h5
      refine wq_g 17 d235_81 (by decide) ?_
      have g5 := rp_Mn (k := 23) (p := pg_pl (pt_T t M n) c) (v := 0) ht m1 (rp_Et rp_li (rp_Ek (h := rp_in h nd) k2) (rp_Ee (rp_Et rp_li (rp_Et rp_li e3 b2) (rp_Ek k5)) (List.append_nil _))) (fun _ => ⟨rfl, hpl, rp_V0 (by decide)⟩)
      rw [List.nil_append] at g5
      have e6 : rp_E t M n σ h σ5 h4 nd (pg_rung (pt_T t M n) c).2 := by rw [er]; exact g5
      have h6 : rp_S t M n σ5 (pg_rung (pt_T t M n) c).1 h4 (s + 20) := by rw [er]; exact rp_Se h5 rfl (by omega)
      have hT6 := rp_t2 (D := 20) (pg_Lrung (pt_T t M n)) hS h6 e6
      exact ih _ _ _ _ hT6 (Nat.lt_of_lt_of_le ht e6.2.1) (fun y => by have := hl z; have := rp_t3 (pg_Lrung (pt_T t M n)) (pg_rung_n _ _) (rp_lv h6 y); omega) (fun σ' h' a3 b1 b2 => hX σ' h' a3 b1 (rp_Et ht e6 b2))
