theorem xb_D (T : pg_T) : pg_D T (pg_ite (pg_is T 37) (pg_ladd T) (pg_body T (pg_B T 100))) := pg_dite (pg_gis T (by decide)) (pg_dbody (pg_dB T 100))
theorem pg_body_2 (T : pg_T) (B : pg_P) (c : pg_C) : (pg_body T B c).2 = (11, xs_bp T c, 0, (B c).2.length + 1) :: (B c).2 := rfl
/-- refused where it was dead before: nothing new -/
theorem xb_bk {t : Nat → Nat} {M n : Nat} {σ σ' : pm_S} {c : pg_C} {h : rp_H} {s ek : Nat} (hN : rp_n t M n) (he : ek ≠ 46 ∧ ek ≠ 45) (hS : rp_S t M n σ c h s) (dd : pg_dead (pt_T t M n) c) (h' : rp_S t M n σ' (pg_exp (pt_T t M n) ek c) h s) : rp_S t M n σ' c h s := by
  have d := pg_fexp (pt_T t M n) he c dd
  refine rp_Ss h' ⟨pg_deq_d dd d, dd, d.1, ?_⟩ (Nat.le_refl _)
  rcases d.2 with w | w
  · exact Or.inr w
  · left
    rw [d.1]
    rcases dd with y | y
    · exact absurd w.1 y
    · exact y
theorem rps225 {d : Nat} {Q : Option Value → pm_S → Prop} {t : Nat → Nat} {M n : Nat} {σ : pm_S} {h : rp_H} {c : pg_C} {s : Nat} {a1 a2 a6 : Value} {ek nd : Nat} {bf : Int32} (hN : rp_n t M n) (he : xs_ok ek) (hs : s ≤ 1900) (ht : nd < h.1) (hb : σ.1 10 6 = 0 → bf = nI (xs_bp (pt_T t M n) c) ∧ 1 ≤ c.1) (hS : rp_S t M n σ c h s) (hQ : ∀ σ' h', rp_S t M n σ' (pg_exp (pt_T t M n) ek (pg_ite (pg_is (pt_T t M n) 37) (pg_ladd (pt_T t M n)) (pg_body (pt_T t M n) (pg_B (pt_T t M n) 100)) c).1) h' (s + 22) → rp_Ew t M n σ h σ' h' nd (pg_ite (pg_is (pt_T t M n) 37) (pg_ladd (pt_T t M n)) (pg_body (pt_T t M n) (pg_B (pt_T t M n) 100)) c).2 → Q none σ') : pm_WP pm_Y0 (pm_call pm_Y0 (d + 18)) 10 prog_14_method_42_code none Q 174 [.ref 10, a1, a2, .int (rx_c ek), .int (nI nd), .int bf, a6] [] σ := by
  have hek : ek ≤ 68 ∧ ek ≠ 44 ∧ ek ≠ 45 ∧ ek ≠ 46 := by unfold xs_ok at he; omega
  cases q : pg_is (pt_T t M n) 37 c with
  | true =>
    rw [xs_s2 _ _ _ _ q] at hQ
    refine wq_l 175 d225_174 rfl rfl rfl rfl ?_
    refine wq_k 178 137 d225_175 (by decide) rfl ?_
    refine wq_v 181 [_] d225_178 rfl rfl m224 rfl rfl (Nat.le_of_ble_eq_true rfl) rfl (rp_is (k := 37) hN (by decide) (by decide) hS ?_)
    rw [q]
    refine wq_b 193 184 d225_181 rfl (by decide) rfl (fun c181 => absurd c181 (by decide)) (fun c181 => ?_)
    refine wq_l 185 d225_184 rfl rfl rfl rfl ?_
    refine wq_l 187 d225_185 rfl rfl rfl rfl ?_
    refine wq_v 190 [_] d225_187 rfl rfl m235 rfl rfl (Nat.le_of_ble_eq_true rfl) rfl (rp235 (s := s) hN (by omega) ht q hS (fun σ1 h1' h1 e1 => ?_))
    refine wq_g 216 d225_190 (by decide) ?_
    refine wq_l 217 d225_216 rfl rfl rfl rfl ?_
    refine wq_l 218 d225_217 rfl rfl rfl rfl ?_
    refine wq_v 221 [_] d225_218 rfl rfl m229 rfl rfl (Nat.le_of_ble_eq_true rfl) rfl (rp_want (k := ek) hN rfl hek h1 (fun σ2 h2 k2 => ?_))
    refine wq_rv d225_221 ?_
    exact hQ _ _ (rp_Se h2 rfl (by omega)) (rp_Eww (rp_Ee (rp_Et ht e1 (rp_Ek k2)) (List.append_nil _)))
  | false =>
    by_cases z : σ.1 10 6 = 0
    · obtain ⟨hb1, hb2⟩ := hb z
      rw [xs_s3 _ _ _ _ q, pg_body_1, pg_body_2] at hQ
      refine wq_l 175 d225_174 rfl rfl rfl rfl ?_
      refine wq_k 178 137 d225_175 (by decide) rfl ?_
      refine wq_v 181 [_] d225_178 rfl rfl m224 rfl rfl (Nat.le_of_ble_eq_true rfl) rfl (rp_is (k := 37) hN (by decide) (by decide) hS ?_)
      rw [q]
      refine wq_b 193 184 d225_181 rfl (by decide) rfl (fun c181 => ?_) (fun c181 => absurd (by decide) c181)
      refine wq_l 194 d225_193 rfl rfl rfl rfl ?_
      refine wq_gi (ci := 10) (j := 6) 197 d225_194 rfl rfl rfl rfl ?_
      refine wq_b 216 200 d225_197 rfl (by decide) rfl (fun c197 => absurd c197 (fun y => y z)) (fun c197 => ?_)
      refine wq_l 201 d225_200 rfl rfl rfl rfl ?_
      refine wq_l 202 d225_201 rfl rfl rfl rfl ?_
      refine wq_l 204 d225_202 rfl rfl rfl rfl ?_
      refine wq_k 206 11 d225_204 (by decide) rfl ?_
      refine wq_l 208 d225_206 rfl rfl rfl rfl ?_
      refine wq_k 209 0 d225_208 (by decide) rfl ?_
      refine wq_v 212 [_, _, _, _] d225_209 rfl rfl m226 rfl rfl (Nat.le_of_ble_eq_true rfl) rfl (rp_mkin (to := nd) hN (by omega) ht hS (fun σ1 h1 m1 => ?_))
      refine wq_l 213 d225_212 rfl rfl rfl rfl ?_
      refine wq_v 216 [_, _] d225_213 rfl rfl m240 rfl rfl (Nat.le_of_ble_eq_true rfl) rfl (rp240 (s := s + 1) hN he (by omega) rp_li hb2 h1 (fun σ2 h2' h2 e2 => ?_))
      refine wq_l 217 d225_216 rfl rfl rfl rfl ?_
      refine wq_l 218 d225_217 rfl rfl rfl rfl ?_
      refine wq_v 221 [_] d225_218 rfl rfl m229 rfl rfl (Nat.le_of_ble_eq_true rfl) rfl (rp_want (k := ek) hN rfl hek h2 (fun σ3 h3 k3 => ?_))
      refine wq_rv d225_221 ?_
      rw [xs_fex hek.2.2.2] at h3
      have e3 := rp_Ewt rp_li e2 (rp_Eww (rp_Ek k3))
      rw [List.append_nil] at e3
      exact hQ _ _ (rp_Se h3 rfl (by omega)) (rp_Mnw ht m1 e3 (fun _ => ⟨rfl, hb1, rp_V0 (by decide)⟩))
    · have dd := rp_dd hS z
      refine wq_l 175 d225_174 rfl rfl rfl rfl ?_
      refine wq_k 178 137 d225_175 (by decide) rfl ?_
      refine wq_v 181 [_] d225_178 rfl rfl m224 rfl rfl (Nat.le_of_ble_eq_true rfl) rfl (rp_is (k := 37) hN (by decide) (by decide) hS ?_)
      rw [q]
      refine wq_b 193 184 d225_181 rfl (by decide) rfl (fun c181 => ?_) (fun c181 => absurd (by decide) c181)
      refine wq_l 194 d225_193 rfl rfl rfl rfl ?_
      refine wq_gi (ci := 10) (j := 6) 197 d225_194 rfl rfl rfl rfl ?_
      refine wq_b 216 200 d225_197 rfl (by decide) rfl (fun c197 => ?_) (fun c197 => absurd (z) c197)
      refine wq_l 217 d225_216 rfl rfl rfl rfl ?_
      refine wq_l 218 d225_217 rfl rfl rfl rfl ?_
      refine wq_v 221 [_] d225_218 rfl rfl m229 rfl rfl (Nat.le_of_ble_eq_true rfl) rfl (rp_want (k := ek) hN rfl hek hS (fun σ3 h3 k3 => ?_))
      refine wq_rv d225_221 ?_
      have d1 := xb_D (pt_T t M n) c dd
      have z3 : ¬ σ3.1 10 6 = 0 := fun y => z (k3.2 y)
      have d3 := pg_deq_d dd d1
      have d4 := pg_fexp (pt_T t M n) (k := ek) (by omega) _ d3
      have h4 : rp_S t M n σ3 c h s := xb_bk hN (by omega) hS dd h3
      exact hQ _ _ (rp_Sd h4 dd (pg_deq_t d1 d4) (by omega)) (rp_Ewl (rp_Eww (rp_Ek (t := t) (M := M) (n := n) (to := nd) (h := h) k3)).1 z3)
theorem xb_s (k : Nat) (p : pg_C → Nat) (v : pg_C → Int32) (o e : pg_C → pg_C) (I W X : pg_P) (c : pg_C) : pg_node k p v (pg_seq (pg_tok o) (pg_seq I (pg_seq W (pg_seq X (pg_tok e))))) c = (e (X (W (I (o c)).1).1).1, (k, p c, v c, ((I (o c)).2 ++ ((W (I (o c)).1).2 ++ (X (W (I (o c)).1).1).2)).length + 1) :: ((I (o c)).2 ++ ((W (I (o c)).1).2 ++ (X (W (I (o c)).1).1).2))) := by
  rw [pg_node_c, pg_seq_c, pg_seq_c, pg_seq_c, pg_seq_c, pg_tok_c, pg_tok_c, List.nil_append, List.append_nil]
def xb_I (T : pg_T) (c : pg_C) : pg_P := if pg_is T 0 c then pg_seq (pg_tok (pg_exp T 58)) (pg_simple T) else pg_nil
theorem pg_block_k (T : pg_T) (c : pg_C) : ∃ K, K = 8192 ∧ pg_block T c = (pg_exp T (pg_k T c + 1) ((pg_ite (pg_is T 37) (pg_ladd T) (pg_body T (pg_B T 100))) (pg_whl (pg_any T [6, 7, 8]) (pg_sect T) K (xb_I T c (pg_exp T 41 (pg_stp c))).1).1).1, (pg_k T c / 2 + 1, pg_pl T c, pg_v T (pg_stp c), ((xb_I T c (pg_exp T 41 (pg_stp c))).2 ++ ((pg_whl (pg_any T [6, 7, 8]) (pg_sect T) K (xb_I T c (pg_exp T 41 (pg_stp c))).1).2 ++ ((pg_ite (pg_is T 37) (pg_ladd T) (pg_body T (pg_B T 100))) (pg_whl (pg_any T [6, 7, 8]) (pg_sect T) K (xb_I T c (pg_exp T 41 (pg_stp c))).1).1).2)).length + 1) :: ((xb_I T c (pg_exp T 41 (pg_stp c))).2 ++ ((pg_whl (pg_any T [6, 7, 8]) (pg_sect T) K (xb_I T c (pg_exp T 41 (pg_stp c))).1).2 ++ ((pg_ite (pg_is T 37) (pg_ladd T) (pg_body T (pg_B T 100))) (pg_whl (pg_any T [6, 7, 8]) (pg_sect T) K (xb_I T c (pg_exp T 41 (pg_stp c))).1).1).2))) := by
  refine ⟨pg_M, rfl, ?_⟩
  unfold pg_block xb_I
  exact xb_s (pg_k T c / 2 + 1) _ _ _ _ _ _ _ c
theorem xb_sm {T : pg_T} {c : pg_C} (z : pg_live T (pg_simple T c).1) : pg_live T c ∧ (pg_simple T c).1 = pg_stp c := by
  have hl := pg_bk (pg_dsimple T) z
  refine ⟨hl, ?_⟩
  unfold pg_simple at z ⊢
  rw [pg_ite_c] at z ⊢
  by_cases q : pg_any T [11, 12, 13] c = true
  · rw [if_pos q, pg_leaf_c]
  · rw [if_neg q, pg_tok_c] at z
    exact absurd pg_stopd (pg_ld.mpr z)
theorem xb_ism (T : pg_T) : pg_I (pg_simple T) := pg_iite (pg_ileaf (fun _ => pg_istp)) (pg_itok (fun _ => Nat.le_refl _))
theorem xb_ia (T : pg_T) : pg_I (pg_array T) := pg_inode (pg_iseq (pg_itok (fun _ => Nat.le_trans pg_istp pg_iexp)) (pg_iseq (pg_iconst T) (pg_iseq (xs_ix T 48) (pg_iseq (pg_iconst T) (pg_iseq (pg_itok (fun _ => Nat.le_trans pg_iexp pg_iexp)) (xb_ism T))))))
theorem xb_id (T : pg_T) : pg_I (pg_decl T) := pg_inode (pg_iseq (pg_ileaf (fun _ => pg_iexp)) (pg_iseq (pg_iwhl (pg_iseq xs_is (pg_ileaf (fun _ => pg_iexp))) pg_M) (pg_iseq (pg_iite (pg_iseq xs_is (pg_ileaf (fun _ => pg_iexp))) pg_inil) (pg_iseq (xs_ix T 58) (pg_iseq (pg_iite (xb_ia T) (pg_iite (pg_ileaf (fun _ => pg_istp)) (xb_ism T))) (pg_iseq (pg_iite (pg_iseq xs_is (pg_iconst T)) pg_inil) (xs_ix T 57)))))))
theorem xb_is (T : pg_T) : pg_I (pg_sect T) := pg_inode (pg_iseq xs_is (pg_iseq (pg_iwhl (xb_id T) pg_M) (xs_ix T 9)))
theorem rp225 {d : Nat} {Q : Option Value → pm_S → Prop} {t : Nat → Nat} {M n : Nat} {σ : pm_S} {h : rp_H} {c : pg_C} {s : Nat} {rt : Nat} (hN : rp_n t M n) (hs : s ≤ 1800) (ht : rt < h.1) (hf : pg_any (pt_T t M n) [0, 2, 4] c = true) (hS : rp_S t M n σ c h s) (hQ : ∀ σ' h', rp_S t M n σ' (pg_block (pt_T t M n) c).1 h' (s + 44) → rp_Ew t M n σ h σ' h' rt (pg_block (pt_T t M n) c).2 → Q none σ') : pm_call pm_Y0 (d + 19) 225 [.ref 10, .int (nI rt)] σ Q := by
  have hl := rp_anyl hf (by decide)
  have z := rp_l0 hS hl.1
  have hpl := rp_pl hS z
  have htk := rp_tk hS z
  have qs := xe_ls hl.1
  have n1 := hN.1
  have n2 := hN.2.2.2.1
  have hlt := rp_lt hN hS (by omega)
  have eh := nI_toInt (n := h.1) (by omega)
  have ch := nI_clamp (n := h.1) (by omega)
  have i1 := pg_iexp (T := pt_T t M n) (k := 41) (c := pg_stp c)
  obtain ⟨K, eK, er⟩ := pg_block_k (pt_T t M n) c
  have hk3 : pg_k (pt_T t M n) c = 0 ∨ pg_k (pt_T t M n) c = 2 ∨ pg_k (pt_T t M n) c = 4 := by unfold pg_any at hf; simpa using hf
  rcases hk3 with hk | hk | hk
  · rw [hk] at htk er
    have hi0 : pg_is (pt_T t M n) 0 c = true := by unfold pg_is; rw [hk]; rfl
    have eI : xb_I (pt_T t M n) c = pg_seq (pg_tok (pg_exp (pt_T t M n) 58)) (pg_simple (pt_T t M n)) := by unfold xb_I; rw [hi0]; rfl
    rw [eI] at er
    rw [er] at hQ
    clear er
    refine wq_m m225 (Nat.le_of_ble_eq_true rfl) (by decide) rfl ?_
    refine wq_l 1 d225_0 rfl rfl rfl rfl ?_
    refine wq_gi (ci := 10) (j := 3) 4 d225_1 rfl rfl rfl rfl ?_
    rw [htk]
    refine wq_k 6 100 d225_4 (by decide) rfl ?_
    refine wq_b 13 9 d225_6 rfl (by decide) rfl (fun c6 => absurd c6 (by decide)) (fun c6 => ?_)
    refine wq_k 10 1 d225_9 (by decide) rfl ?_
    refine wq_g 27 d225_10 (by decide) ?_
    refine wq_s 28 d225_27 rfl rfl (Nat.le_of_ble_eq_true rfl) rfl rfl ?_
    refine wq_l 29 d225_28 rfl rfl rfl rfl ?_
    refine wq_gi (ci := 10) (j := 3) 32 d225_29 rfl rfl rfl rfl ?_
    rw [htk]
    refine wq_k 33 1 d225_32 (by decide) rfl ?_
    refine wq_a 34 d225_33 rfl rfl ?_
    rw [show rx_c 0 + 1 = rx_c 1 from by decide]
    refine wq_s 35 d225_34 rfl rfl (Nat.le_of_ble_eq_true rfl) rfl rfl ?_
    refine wq_l 36 d225_35 rfl rfl rfl rfl ?_
    refine wq_l 37 d225_36 rfl rfl rfl rfl ?_
    refine wq_l 38 d225_37 rfl rfl rfl rfl ?_
    refine wq_l 39 d225_38 rfl rfl rfl rfl ?_
    refine wq_gi (ci := 10) (j := 4) 42 d225_39 rfl rfl rfl rfl ?_
    refine wq_k 43 0 d225_42 (by decide) rfl ?_
    refine wq_v 46 [_, _, _, _] d225_43 rfl rfl m226 rfl rfl (Nat.le_of_ble_eq_true rfl) rfl (rp_mkin (to := rt) hN (by omega) ht hS (fun σ1 h1 m1 => ?_))
    refine wq_s 48 d225_46 rfl rfl (Nat.le_of_ble_eq_true rfl) rfl rfl ?_
    refine wq_l 49 d225_48 rfl rfl rfl rfl ?_
    refine wq_v 52 [] d225_49 rfl rfl m203 rfl rfl (Nat.le_of_ble_eq_true rfl) rfl (rp_go hN hl h1 (fun σ2 h2 k2 => ?_))
    refine wq_l 53 d225_52 rfl rfl rfl rfl ?_
    refine wq_gi (ci := 10) (j := 4) 56 d225_53 rfl rfl rfl rfl ?_
    refine wq_s 58 d225_56 rfl rfl (Nat.le_of_ble_eq_true rfl) rfl rfl ?_
    refine wq_l 59 d225_58 rfl rfl rfl rfl ?_
    refine wq_gr (ci := 10) (j := 18) (q := 51) 62 d225_59 rfl rfl rfl rfl ?_
    refine wq_l 64 d225_62 rfl rfl rfl rfl ?_
    refine wq_l 65 d225_64 rfl rfl rfl rfl ?_
    refine wq_v 68 [] d225_65 rfl rfl m228 rfl rfl (Nat.le_of_ble_eq_true rfl) rfl (rp_wn hN h2 (fun σ3 h3 k3 => ?_))
    refine wq_as 69 d225_68 rfl rfl rfl (vp_in_iff.mpr (by simp only [i_lt, i_le, i_eq, ne_eq, Int32.reduceToInt, b2_0, b2_1, decide_eq_true_eq, decide_eq_false_iff_not, Bool.not_eq_true, Bool.not_eq_false, eh] at * <;> omega)) ?_
    rw [ch, show pm_nr 0 (σ2.1 10 5) = σ2.1 10 5 from rfl]
    have ma := rp_Mw (w := σ2.1 10 5) (rp_Mk (rp_Mk m1 k2) k3)
    have ha := xs_S51 (f := upd (σ3.2.2 51) h.1 (σ2.1 10 5)) h3
    have hv : (pm_pr σ3 51 (upd (σ3.2.2 51) h.1 (σ2.1 10 5))).1 10 6 = 0 → rp_V t M n 1 (σ2.1 10 5) (pg_v (pt_T t M n) (pg_stp c)) := fun w => rp_nm (by decide) h2 h3 w
    have hbf : (pm_pr σ3 51 (upd (σ3.2.2 51) h.1 (σ2.1 10 5))).1 10 6 = 0 → σ2.1 10 4 = nI (xs_bp (pt_T t M n) (pg_exp (pt_T t M n) 41 (pg_stp c))) := fun w => by
      rw [xs_bpx (by decide) (rp_lv h3 w)]
      exact rp_pl h2 (k3.2 w)
    generalize pm_pr σ3 51 (upd (σ3.2.2 51) h.1 (σ2.1 10 5)) = σa at *
    generalize σ2.1 10 5 = va at *
    generalize σ2.1 10 4 = vb at *
    refine wq_l 70 d225_69 rfl rfl rfl rfl ?_
    refine wq_k 71 1 d225_70 (by decide) rfl ?_
    refine wq_b 93 74 d225_71 rfl (by decide) rfl (fun c71 => absurd c71 (by decide)) (fun c71 => ?_)
    refine wq_l 75 d225_74 rfl rfl rfl rfl ?_
    refine wq_k 78 258 d225_75 (by decide) rfl ?_
    refine wq_v 81 [_] d225_78 rfl rfl m229 rfl rfl (Nat.le_of_ble_eq_true rfl) rfl (rp_want (k := 58) hN (by decide) (by decide) ha (fun σ4 h4 k4 => ?_))
    refine wq_l 82 d225_81 rfl rfl rfl rfl ?_
    refine wq_gi (ci := 10) (j := 4) 85 d225_82 rfl rfl rfl rfl ?_
    refine wq_s 87 d225_85 rfl rfl (Nat.le_of_ble_eq_true rfl) rfl rfl ?_
    refine wq_l 88 d225_87 rfl rfl rfl rfl ?_
    refine wq_l 90 d225_88 rfl rfl rfl rfl ?_
    refine wq_v 93 [_] d225_90 rfl rfl m231 rfl rfl (Nat.le_of_ble_eq_true rfl) rfl (rp231 (s := s + 1) (to := h.1) hN (by omega) rp_li h4 (fun σ5 h5' h5 e5 => ?_))
    have i2 := pg_iexp (T := pt_T t M n) (k := 58) (c := pg_exp (pt_T t M n) 41 (pg_stp c))
    have i3 := xb_ism (pt_T t M n) (pg_exp (pt_T t M n) 58 (pg_exp (pt_T t M n) 41 (pg_stp c)))
    have g5 := rp_Et rp_li (rp_Ek (h := rp_in h rt) k4) e5
    rw [List.nil_append] at g5
    have g5w := rp_Eww g5
    rw [pg_seq_c, pg_tok_c, List.nil_append] at hQ
    dsimp only at hQ
    refine rpl225 (s := s + 2) hN (by omega) K _ _ _ _ _ (rp_t0 h5) (Nat.lt_of_lt_of_le rp_li g5.2.1) (fun _ => by omega) (fun y => by
      obtain ⟨y1, y2⟩ := xb_sm (rp_lv h5 y)
      rw [y2, xs_bps y1]
      exact rp_pl h4 (e5.2.2.1 y)) (fun σ7 h7 bf a6 b1 b2 b3 => ?_)
    refine rps225 (s := s + 2 + 20) (ek := 1) hN (by unfold xs_ok; decide) (by omega) (Nat.lt_of_lt_of_le (Nat.lt_of_lt_of_le rp_li g5.2.1) b2.2.1) (fun y => ⟨b3 y, by have := pg_iwhl (p := pg_any (pt_T t M n) [6, 7, 8]) (a := pg_sect (pt_T t M n)) (xb_is _) K; have := this ((pg_simple (pt_T t M n) (pg_exp (pt_T t M n) 58 (pg_exp (pt_T t M n) 41 (pg_stp c)))).1); omega⟩) b1.1 (fun σ8 h8 c1 c2 => ?_)
    have g8 := rp_Ewt rp_li g5w (rp_Ewt (Nat.lt_of_lt_of_le rp_li g5w.1.2.1) (rp_Eww b2) c2)
    exact hQ _ _ (rp_Se c1 rfl (by omega)) (rp_Mnw (k := 1) ht ma g8 (fun y => ⟨rfl, hpl, hv (g8.1.2.2.1 y)⟩))
  · rw [hk] at htk er
    have hi0 : pg_is (pt_T t M n) 0 c = false := by unfold pg_is; rw [hk]; rfl
    have eI : xb_I (pt_T t M n) c = pg_nil := by unfold xb_I; rw [hi0]; rfl
    rw [eI] at er
    rw [er] at hQ
    clear er
    refine wq_m m225 (Nat.le_of_ble_eq_true rfl) (by decide) rfl ?_
    refine wq_l 1 d225_0 rfl rfl rfl rfl ?_
    refine wq_gi (ci := 10) (j := 3) 4 d225_1 rfl rfl rfl rfl ?_
    rw [htk]
    refine wq_k 6 100 d225_4 (by decide) rfl ?_
    refine wq_b 13 9 d225_6 rfl (by decide) rfl (fun c6 => ?_) (fun c6 => absurd (by decide) c6)
    refine wq_l 14 d225_13 rfl rfl rfl rfl ?_
    refine wq_gi (ci := 10) (j := 3) 17 d225_14 rfl rfl rfl rfl ?_
    rw [htk]
    refine wq_k 19 102 d225_17 (by decide) rfl ?_
    refine wq_b 26 22 d225_19 rfl (by decide) rfl (fun c19 => absurd c19 (by decide)) (fun c19 => ?_)
    refine wq_k 23 2 d225_22 (by decide) rfl ?_
    refine wq_g 27 d225_23 (by decide) ?_
    refine wq_s 28 d225_27 rfl rfl (Nat.le_of_ble_eq_true rfl) rfl rfl ?_
    refine wq_l 29 d225_28 rfl rfl rfl rfl ?_
    refine wq_gi (ci := 10) (j := 3) 32 d225_29 rfl rfl rfl rfl ?_
    rw [htk]
    refine wq_k 33 1 d225_32 (by decide) rfl ?_
    refine wq_a 34 d225_33 rfl rfl ?_
    rw [show rx_c 2 + 1 = rx_c 3 from by decide]
    refine wq_s 35 d225_34 rfl rfl (Nat.le_of_ble_eq_true rfl) rfl rfl ?_
    refine wq_l 36 d225_35 rfl rfl rfl rfl ?_
    refine wq_l 37 d225_36 rfl rfl rfl rfl ?_
    refine wq_l 38 d225_37 rfl rfl rfl rfl ?_
    refine wq_l 39 d225_38 rfl rfl rfl rfl ?_
    refine wq_gi (ci := 10) (j := 4) 42 d225_39 rfl rfl rfl rfl ?_
    refine wq_k 43 0 d225_42 (by decide) rfl ?_
    refine wq_v 46 [_, _, _, _] d225_43 rfl rfl m226 rfl rfl (Nat.le_of_ble_eq_true rfl) rfl (rp_mkin (to := rt) hN (by omega) ht hS (fun σ1 h1 m1 => ?_))
    refine wq_s 48 d225_46 rfl rfl (Nat.le_of_ble_eq_true rfl) rfl rfl ?_
    refine wq_l 49 d225_48 rfl rfl rfl rfl ?_
    refine wq_v 52 [] d225_49 rfl rfl m203 rfl rfl (Nat.le_of_ble_eq_true rfl) rfl (rp_go hN hl h1 (fun σ2 h2 k2 => ?_))
    refine wq_l 53 d225_52 rfl rfl rfl rfl ?_
    refine wq_gi (ci := 10) (j := 4) 56 d225_53 rfl rfl rfl rfl ?_
    refine wq_s 58 d225_56 rfl rfl (Nat.le_of_ble_eq_true rfl) rfl rfl ?_
    refine wq_l 59 d225_58 rfl rfl rfl rfl ?_
    refine wq_gr (ci := 10) (j := 18) (q := 51) 62 d225_59 rfl rfl rfl rfl ?_
    refine wq_l 64 d225_62 rfl rfl rfl rfl ?_
    refine wq_l 65 d225_64 rfl rfl rfl rfl ?_
    refine wq_v 68 [] d225_65 rfl rfl m228 rfl rfl (Nat.le_of_ble_eq_true rfl) rfl (rp_wn hN h2 (fun σ3 h3 k3 => ?_))
    refine wq_as 69 d225_68 rfl rfl rfl (vp_in_iff.mpr (by simp only [i_lt, i_le, i_eq, ne_eq, Int32.reduceToInt, b2_0, b2_1, decide_eq_true_eq, decide_eq_false_iff_not, Bool.not_eq_true, Bool.not_eq_false, eh] at * <;> omega)) ?_
    rw [ch, show pm_nr 0 (σ2.1 10 5) = σ2.1 10 5 from rfl]
    have ma := rp_Mw (w := σ2.1 10 5) (rp_Mk (rp_Mk m1 k2) k3)
    have ha := xs_S51 (f := upd (σ3.2.2 51) h.1 (σ2.1 10 5)) h3
    have hv : (pm_pr σ3 51 (upd (σ3.2.2 51) h.1 (σ2.1 10 5))).1 10 6 = 0 → rp_V t M n 2 (σ2.1 10 5) (pg_v (pt_T t M n) (pg_stp c)) := fun w => rp_nm (by decide) h2 h3 w
    have hbf : (pm_pr σ3 51 (upd (σ3.2.2 51) h.1 (σ2.1 10 5))).1 10 6 = 0 → σ2.1 10 4 = nI (xs_bp (pt_T t M n) (pg_exp (pt_T t M n) 41 (pg_stp c))) := fun w => by
      rw [xs_bpx (by decide) (rp_lv h3 w)]
      exact rp_pl h2 (k3.2 w)
    generalize pm_pr σ3 51 (upd (σ3.2.2 51) h.1 (σ2.1 10 5)) = σa at *
    generalize σ2.1 10 5 = va at *
    generalize σ2.1 10 4 = vb at *
    refine wq_l 70 d225_69 rfl rfl rfl rfl ?_
    refine wq_k 71 1 d225_70 (by decide) rfl ?_
    refine wq_b 93 74 d225_71 rfl (by decide) rfl (fun c71 => ?_) (fun c71 => absurd (by decide) c71)
    have g5w : rp_Ew t M n σa (rp_in h rt) σa (rp_in h rt) h.1 [] := rp_Ewr
    rw [pg_nil_c] at hQ
    dsimp only at hQ
    refine rpl225 (s := s + 2) hN (by omega) K _ _ _ _ _ (rp_t0 (rp_Se (s' := s + 2) ha rfl (by omega))) rp_li (fun _ => by omega) hbf (fun σ7 h7 bf a6 b1 b2 b3 => ?_)
    refine rps225 (s := s + 2 + 20) (ek := 3) hN (by unfold xs_ok; decide) (by omega) (Nat.lt_of_lt_of_le rp_li b2.2.1) (fun y => ⟨b3 y, by have := pg_iwhl (p := pg_any (pt_T t M n) [6, 7, 8]) (a := pg_sect (pt_T t M n)) (xb_is _) K; have := this (pg_exp (pt_T t M n) 41 (pg_stp c)); omega⟩) b1.1 (fun σ8 h8 c1 c2 => ?_)
    have g8 := rp_Ewt rp_li g5w (rp_Ewt (Nat.lt_of_lt_of_le rp_li g5w.1.2.1) (rp_Eww b2) c2)
    exact hQ _ _ (rp_Se c1 rfl (by omega)) (rp_Mnw (k := 2) ht ma g8 (fun y => ⟨rfl, hpl, hv (g8.1.2.2.1 y)⟩))
  · rw [hk] at htk er
    have hi0 : pg_is (pt_T t M n) 0 c = false := by unfold pg_is; rw [hk]; rfl
    have eI : xb_I (pt_T t M n) c = pg_nil := by unfold xb_I; rw [hi0]; rfl
    rw [eI] at er
    rw [er] at hQ
    clear er
    refine wq_m m225 (Nat.le_of_ble_eq_true rfl) (by decide) rfl ?_
    refine wq_l 1 d225_0 rfl rfl rfl rfl ?_
    refine wq_gi (ci := 10) (j := 3) 4 d225_1 rfl rfl rfl rfl ?_
    rw [htk]
    refine wq_k 6 100 d225_4 (by decide) rfl ?_
    refine wq_b 13 9 d225_6 rfl (by decide) rfl (fun c6 => ?_) (fun c6 => absurd (by decide) c6)
    refine wq_l 14 d225_13 rfl rfl rfl rfl ?_
    refine wq_gi (ci := 10) (j := 3) 17 d225_14 rfl rfl rfl rfl ?_
    rw [htk]
    refine wq_k 19 102 d225_17 (by decide) rfl ?_
    refine wq_b 26 22 d225_19 rfl (by decide) rfl (fun c19 => ?_) (fun c19 => absurd (by decide) c19)
    refine wq_k 27 3 d225_26 (by decide) rfl ?_
    refine wq_s 28 d225_27 rfl rfl (Nat.le_of_ble_eq_true rfl) rfl rfl ?_
    refine wq_l 29 d225_28 rfl rfl rfl rfl ?_
    refine wq_gi (ci := 10) (j := 3) 32 d225_29 rfl rfl rfl rfl ?_
    rw [htk]
    refine wq_k 33 1 d225_32 (by decide) rfl ?_
    refine wq_a 34 d225_33 rfl rfl ?_
    rw [show rx_c 4 + 1 = rx_c 5 from by decide]
    refine wq_s 35 d225_34 rfl rfl (Nat.le_of_ble_eq_true rfl) rfl rfl ?_
    refine wq_l 36 d225_35 rfl rfl rfl rfl ?_
    refine wq_l 37 d225_36 rfl rfl rfl rfl ?_
    refine wq_l 38 d225_37 rfl rfl rfl rfl ?_
    refine wq_l 39 d225_38 rfl rfl rfl rfl ?_
    refine wq_gi (ci := 10) (j := 4) 42 d225_39 rfl rfl rfl rfl ?_
    refine wq_k 43 0 d225_42 (by decide) rfl ?_
    refine wq_v 46 [_, _, _, _] d225_43 rfl rfl m226 rfl rfl (Nat.le_of_ble_eq_true rfl) rfl (rp_mkin (to := rt) hN (by omega) ht hS (fun σ1 h1 m1 => ?_))
    refine wq_s 48 d225_46 rfl rfl (Nat.le_of_ble_eq_true rfl) rfl rfl ?_
    refine wq_l 49 d225_48 rfl rfl rfl rfl ?_
    refine wq_v 52 [] d225_49 rfl rfl m203 rfl rfl (Nat.le_of_ble_eq_true rfl) rfl (rp_go hN hl h1 (fun σ2 h2 k2 => ?_))
    refine wq_l 53 d225_52 rfl rfl rfl rfl ?_
    refine wq_gi (ci := 10) (j := 4) 56 d225_53 rfl rfl rfl rfl ?_
    refine wq_s 58 d225_56 rfl rfl (Nat.le_of_ble_eq_true rfl) rfl rfl ?_
    refine wq_l 59 d225_58 rfl rfl rfl rfl ?_
    refine wq_gr (ci := 10) (j := 18) (q := 51) 62 d225_59 rfl rfl rfl rfl ?_
    refine wq_l 64 d225_62 rfl rfl rfl rfl ?_
    refine wq_l 65 d225_64 rfl rfl rfl rfl ?_
    refine wq_v 68 [] d225_65 rfl rfl m228 rfl rfl (Nat.le_of_ble_eq_true rfl) rfl (rp_wn hN h2 (fun σ3 h3 k3 => ?_))
    refine wq_as 69 d225_68 rfl rfl rfl (vp_in_iff.mpr (by simp only [i_lt, i_le, i_eq, ne_eq, Int32.reduceToInt, b2_0, b2_1, decide_eq_true_eq, decide_eq_false_iff_not, Bool.not_eq_true, Bool.not_eq_false, eh] at * <;> omega)) ?_
    rw [ch, show pm_nr 0 (σ2.1 10 5) = σ2.1 10 5 from rfl]
    have ma := rp_Mw (w := σ2.1 10 5) (rp_Mk (rp_Mk m1 k2) k3)
    have ha := xs_S51 (f := upd (σ3.2.2 51) h.1 (σ2.1 10 5)) h3
    have hv : (pm_pr σ3 51 (upd (σ3.2.2 51) h.1 (σ2.1 10 5))).1 10 6 = 0 → rp_V t M n 3 (σ2.1 10 5) (pg_v (pt_T t M n) (pg_stp c)) := fun w => rp_nm (by decide) h2 h3 w
    have hbf : (pm_pr σ3 51 (upd (σ3.2.2 51) h.1 (σ2.1 10 5))).1 10 6 = 0 → σ2.1 10 4 = nI (xs_bp (pt_T t M n) (pg_exp (pt_T t M n) 41 (pg_stp c))) := fun w => by
      rw [xs_bpx (by decide) (rp_lv h3 w)]
      exact rp_pl h2 (k3.2 w)
    generalize pm_pr σ3 51 (upd (σ3.2.2 51) h.1 (σ2.1 10 5)) = σa at *
    generalize σ2.1 10 5 = va at *
    generalize σ2.1 10 4 = vb at *
    refine wq_l 70 d225_69 rfl rfl rfl rfl ?_
    refine wq_k 71 1 d225_70 (by decide) rfl ?_
    refine wq_b 93 74 d225_71 rfl (by decide) rfl (fun c71 => ?_) (fun c71 => absurd (by decide) c71)
    have g5w : rp_Ew t M n σa (rp_in h rt) σa (rp_in h rt) h.1 [] := rp_Ewr
    rw [pg_nil_c] at hQ
    dsimp only at hQ
    refine rpl225 (s := s + 2) hN (by omega) K _ _ _ _ _ (rp_t0 (rp_Se (s' := s + 2) ha rfl (by omega))) rp_li (fun _ => by omega) hbf (fun σ7 h7 bf a6 b1 b2 b3 => ?_)
    refine rps225 (s := s + 2 + 20) (ek := 5) hN (by unfold xs_ok; decide) (by omega) (Nat.lt_of_lt_of_le rp_li b2.2.1) (fun y => ⟨b3 y, by have := pg_iwhl (p := pg_any (pt_T t M n) [6, 7, 8]) (a := pg_sect (pt_T t M n)) (xb_is _) K; have := this (pg_exp (pt_T t M n) 41 (pg_stp c)); omega⟩) b1.1 (fun σ8 h8 c1 c2 => ?_)
    have g8 := rp_Ewt rp_li g5w (rp_Ewt (Nat.lt_of_lt_of_le rp_li g5w.1.2.1) (rp_Eww b2) c2)
    exact hQ _ _ (rp_Se c1 rfl (by omega)) (rp_Mnw (k := 3) ht ma g8 (fun y => ⟨rfl, hpl, hv (g8.1.2.2.1 y)⟩))
