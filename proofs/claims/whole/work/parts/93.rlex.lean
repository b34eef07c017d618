/-! GO -/
/-- a token that is no name, read at q -/
theorem rq_one {σ0 σ : pm_S} {t : Nat → Nat} {M j q : Nat} {Q : Option Value → pm_S → Prop} {r : lx_K} {ns : List (List Nat)} (hF : rq_F σ0 σ) (h0 : rx_0 σ q) (hN : rx_N σ t M (rq_ps t M j)) (hx : lx_nx t M (lx_at t M lx_ns j) = (q, r, ns)) (h41 : r.1 ≠ 45 → 41 < r.1) (hv : r.1 ≠ 45 → r.1 ≠ 42 → r.1 ≠ 43 → r.2.1 = 0) (hQ : ∀ σ', rq_F σ0 σ' → rq_A σ' t M j → Q none σ') : rx_Q Q σ q r := by
  have hk : lx_k t M lx_ns j = r.1 := by unfold lx_k; rw [hx]
  have hp : lx_p t M lx_ns j = q := by unfold lx_p; rw [hx]
  have hvv : lx_v t M lx_ns j = r.2.1 := by unfold lx_v; rw [hx]
  have he : (lx_at t M lx_ns (j + 1)).1 = r.2.2 := by show (lx_nx t M (lx_at t M lx_ns j)).2.1.2.2 = _; rw [hx]
  refine ⟨fun h e' => hQ _ (rq_Fp (rq_Fp (rq_Fp hF (by decide)) (by decide)) (by decide)) ⟨fun _ => ⟨by rw [hvv]; rfl, by rw [hp]; rfl⟩, fun z => absurd (hk.trans h) z⟩, fun h => hQ _ (rq_Fp (rq_Fp (rq_Fp hF (by decide)) (by decide)) (by decide)) ⟨fun z => absurd (hk.symm.trans z) h, fun _ => ?_⟩⟩
  have h41 := h41 h
  have hps : rq_ps t M (j + 1) = rq_ps t M j := if_neg (fun z => by rw [hk] at z; omega)
  refine ⟨h0.1, by rw [he]; rfl, by rw [hk]; rfl, by rw [hp]; exact h0.2.1, ?_, ?_⟩
  · show nI r.2.1 = nI (rq_v t M j)
    unfold rq_v
    rw [hk, if_neg (by omega)]
    by_cases z : r.1 = 42 ∨ r.1 = 43
    · rw [if_pos z, hvv]
    · rw [if_neg z, hv h (by omega) (by omega)]
  · rw [hps]
    exact rx_N_pi (by decide) (rx_N_pi (by decide) (rx_N_pi (by decide) hN))
theorem sp203 {d : Nat} {σ : pm_S} {Q : Option Value → pm_S → Prop} {t : Nat → Nat} {M : Nat} {j : Nat} (hT : rx_T σ t M) (hb : lx_b t M j) (h2 : σ.1 10 2 = nI (lx_at t M lx_ns j).1) (h6 : σ.1 10 6 = 0) (hN : rx_N σ t M (rq_ps t M j)) (hQ : ∀ σ', rq_F σ σ' → rq_A σ' t M j → Q none σ') : pm_call pm_Y0 (d + 6) 203 [.ref 10] σ Q := by
  have hM := hT.2.1
  have ht := hT.2.2.2
  obtain ⟨j1, j2, j3⟩ := lx_at_J hM j hb
  have rJ := rq_J hM j hb
  have rD := rq_Db hM j hb
  have sb := lx_sk_b (t := t) (M := M) (M + 1 - (lx_at t M lx_ns j).1) (lx_at t M lx_ns j).1 j3
  have sb1 : (lx_at t M lx_ns j).1 ≤ (lx_sk t M (lx_at t M lx_ns j).1).1 := sb.1
  have sb2 : (lx_sk t M (lx_at t M lx_ns j).1).1 ≤ M := sb.2
  have hno := lx_nx_no (t := t) (M := M) (s := lx_at t M lx_ns j)
  have hok := lx_nx_ok (t := t) (M := M) (s := lx_at t M lx_ns j)
  have hgo : pm_call pm_Y0 (d + 6) 203 [.ref 10] (rs σ (lx_at t M lx_ns j).1) Q := ?_
  · rw [rs_id h2] at hgo; exact hgo
  generalize hsk : lx_sk t M (lx_at t M lx_ns j).1 = S at *
  obtain ⟨q, ok⟩ := S
  have sb1 : (lx_at t M lx_ns j).1 ≤ q := sb1
  have sb2 : q ≤ M := sb2
  have hJq := lx_J_sk j1 sb1
  have hidq : pm_pi (pm_pi (rs σ q) 10 4 (nI q)) 10 5 0 = rs (pm_pi (pm_pi (rs σ q) 10 4 (nI q)) 10 5 0) q := (rs_id rfl).symm
  have hT3 : rx_T (pm_pi (pm_pi (rs σ q) 10 4 (nI q)) 10 5 0) t M := hT
  have h03 : rx_0 (pm_pi (pm_pi (rs σ q) 10 4 (nI q)) 10 5 0) q := ⟨h6, rfl, rfl⟩
  have hN3 : rx_N (pm_pi (pm_pi (rs σ q) 10 4 (nI q)) 10 5 0) t M (rq_ps t M j) := rx_N_pi (by decide) (rx_N_pi (by decide) (rx_N_pi (by decide) hN))
  have hF3 : rq_F σ (pm_pi (pm_pi (rs σ q) 10 4 (nI q)) 10 5 0) := rq_Fp (rq_Fp (rq_Fp rq_Fr (by decide)) (by decide)) (by decide)
  refine wq_m m203 (Nat.le_of_ble_eq_true rfl) (by decide) rfl ?_
  refine wq_l 1 d203_0 rfl rfl rfl rfl ?_
  refine wq_v 4 [] d203_1 rfl rfl m204 rfl rfl (Nat.le_of_ble_eq_true rfl) rfl (sp204 hT h6 j3 (fun hy => ?_) (fun hn => ?_))
  · rw [hsk] at hy ⊢
    have hok := hok hy
    have h6q : (rs σ q).1 10 6 = 0 := h6
    refine wq_l 5 d203_4 rfl rfl rfl rfl ?_
    refine wq_gi (ci := 10) (j := 6) 8 d203_5 rfl rfl rfl rfl ?_
    rw [h6q]
    refine wq_b 12 11 d203_8 rfl (by decide) rfl (fun c8 => ?_) (fun c8 => absurd (by decide) c8)
    refine wq_l 13 d203_12 rfl rfl rfl rfl ?_
    refine wq_l 14 d203_13 rfl rfl rfl rfl ?_
    refine wq_gi (ci := 10) (j := 2) 17 d203_14 rfl rfl rfl rfl ?_
    rw [rs_2]
    refine wq_pf (ci := 10) (j := 4) 20 d203_17 rfl rfl rfl ⟨rfl, rfl⟩ rfl ?_
    refine wq_l 21 d203_20 rfl rfl rfl rfl ?_
    refine wq_k 22 0 d203_21 (by decide) rfl ?_
    refine wq_pf (ci := 10) (j := 5) 25 d203_22 rfl rfl rfl ⟨rfl, rfl⟩ rfl ?_
    rw [hidq]
    generalize pm_pi (pm_pi (rs σ q) 10 4 (nI q)) 10 5 0 = σ3 at *
    refine wq_l 26 d203_25 rfl rfl rfl rfl ?_
    refine wq_k 27 0 d203_26 (by decide) rfl ?_
    refine wq_v 30 [_] d203_27 rfl rfl m205 rfl rfl (Nat.le_of_ble_eq_true rfl) rfl (sp205z hT3 (by omega) ?_)
    refine wq_s 31 d203_30 rfl rfl (Nat.le_of_ble_eq_true rfl) rfl rfl ?_
    refine wq_l 32 d203_31 rfl rfl rfl rfl ?_
    refine wq_b 43 35 d203_32 rfl (by decide) rfl (fun c32 => ?_) (fun c32 => ?_)
    · -- pc 43
      have hq : q < M := by
        rcases Nat.lt_or_ge q M with z | z
        · exact z
        · rw [show lx_c t M q = -1 from if_neg (by omega)] at c32; exact absurd c32 (by decide)
      rw [show lx_c t M q = nI (t q) from if_pos hq]
      have tq := ht q
      have et := nI_toInt (n := t q) (by omega)
      have e1 := lx_ci (M := M) ht (q + 1)
      refine wq_l 44 d203_43 rfl rfl rfl rfl ?_
      refine wq_k 46 84 d203_44 (by decide) rfl ?_
      refine wq_b 55 49 d203_46 rfl (by decide) rfl (fun c46 => ?_) (fun c46 => ?_)
      · -- pc 55
        refine wq_l 56 d203_55 rfl rfl rfl rfl ?_
        refine wq_k 57 1 d203_56 (by decide) rfl ?_
        refine wq_v 60 [_] d203_57 rfl rfl m205 rfl rfl (Nat.le_of_ble_eq_true rfl) rfl (sp205 (k := 1) hT3 (by omega) ?_)
        refine wq_k 62 35 d203_60 (by decide) rfl ?_
        refine wq_b 72 65 d203_62 rfl (by decide) rfl (fun c62 => ?_) (fun c62 => ?_)
        · -- pc 72
          have hT2 : ¬ ((t q = 84 ∨ t q = 116) ∧ lx_i t M (q + 1) = 35) := by rintro ⟨z3, z4⟩; first | (have z1 := c46; have z2 := c52; simp only [i_lt, i_le, i_eq, ne_eq, Int32.reduceToInt, b2_0, b2_1, decide_eq_true_eq, decide_eq_false_iff_not, Bool.not_eq_true, Bool.not_eq_false, et] at z1 z2; omega) | (have z2 := c62; simp only [i_lt, i_le, i_eq, ne_eq, Int32.reduceToInt, b2_0, b2_1, decide_eq_true_eq, decide_eq_false_iff_not, Bool.not_eq_true, Bool.not_eq_false, e1] at z2; omega)
          refine wq_l 73 d203_72 rfl rfl rfl rfl ?_
          refine wq_vs 76 [_] d203_73 rfl rfl m214 rfl (Nat.le_of_ble_eq_true rfl) rfl (sp214 ?_)
          rw [et]
          refine wq_b 86 79 d203_76 rfl (by decide) rfl (fun c76 => ?_) (fun c76 => ?_)
          · -- pc 86
            have hl : rx_l (t q) = false := by simpa only [i_lt, i_le, i_eq, ne_eq, Int32.reduceToInt, b2_0, b2_1, decide_eq_true_eq, decide_eq_false_iff_not, Bool.not_eq_true, Bool.not_eq_false] using c76
            have hl2 := of_decide_eq_false hl
            refine wq_l 87 d203_86 rfl rfl rfl rfl ?_
            refine wq_vs 90 [_] d203_87 rfl rfl m210 rfl (Nat.le_of_ble_eq_true rfl) rfl (sp210 ?_)
            rw [et]
            refine wq_b 100 93 d203_90 rfl (by decide) rfl (fun c90 => ?_) (fun c90 => ?_)
            · -- pc 100
              have hdg : ¬ lx_dg (t q) = true := by simpa only [i_lt, i_le, i_eq, ne_eq, Int32.reduceToInt, b2_0, b2_1, decide_eq_true_eq, decide_eq_false_iff_not, Bool.not_eq_true, Bool.not_eq_false] using c90
              have hdg2 : ¬ (48 ≤ (t q : Int) ∧ (t q : Int) ≤ 57) := fun z => hdg (decide_eq_true z)
              have hnp : ¬ lx_np (t q) = true := fun z => by have z := of_decide_eq_true z; omega
              refine wq_l 101 d203_100 rfl rfl rfl rfl ?_
              refine wq_k 103 37 d203_101 (by decide) rfl ?_
              refine wq_b 113 106 d203_103 rfl (by decide) rfl (fun c103 => ?_) (fun c103 => ?_)
              · -- pc 113
                have h37 : ¬ t q = 37 := by have z := c103; simp only [i_lt, i_le, i_eq, ne_eq, Int32.reduceToInt, b2_0, b2_1, decide_eq_true_eq, decide_eq_false_iff_not, Bool.not_eq_true, Bool.not_eq_false, et] at z; omega
                have hk : lx_tok t M q (lx_at t M lx_ns j).2 = (lx_sgn t M q, (lx_at t M lx_ns j).2) := by unfold lx_tok; rw [if_neg (by omega), if_neg hT2, if_neg hdg, if_neg hnp]; exact if_neg h37
                have hkk : (lx_sgn t M q).1 ≠ 45 → 47 ≤ (lx_sgn t M q).1 ∧ (lx_sgn t M q).2.1 = 0 := fun z => by obtain ⟨k, e, g1, g2, _⟩ := lx_sgn_e hq z; rw [g1]; exact ⟨g2.1, rfl⟩
                have hz := rq_one (Q := Q) hF3 h03 hN3 (by rw [hok, hk]) (fun z => by have := hkk z; omega) (fun z _ _ => (hkk z).2) hQ
                refine wq_l 114 d203_113 rfl rfl rfl rfl ?_
                refine wq_l 115 d203_114 rfl rfl rfl rfl ?_
                refine wq_v 118 [_] d203_115 rfl rfl m223 rfl rfl (Nat.le_of_ble_eq_true rfl) rfl (sp223 hT3 h03 hq ⟨fun z e' => ?_, fun z => ?_⟩)
                · exact wq_rv d203_118 (hz.1 z e')
                · exact wq_rv d203_118 (hz.2 z)
              · -- pc 106
                have h37 : t q = 37 := by have z := c103; simp only [i_lt, i_le, i_eq, ne_eq, Int32.reduceToInt, b2_0, b2_1, decide_eq_true_eq, decide_eq_false_iff_not, Bool.not_eq_true, Bool.not_eq_false, et] at z; omega
                have hk : lx_tok t M q (lx_at t M lx_ns j).2 = (lx_pla t M q, (lx_at t M lx_ns j).2) := by unfold lx_tok; rw [if_neg (by omega), if_neg hT2, if_neg hdg, if_neg hnp]; exact if_pos h37
                have hkk : (lx_pla t M q).1 ≠ 45 → (lx_pla t M q).1 = 43 := fun z => by obtain ⟨v, e, g1, _⟩ := lx_pla_e z; rw [g1]
                have hz := rq_one (Q := Q) hF3 h03 hN3 (by rw [hok, hk]) (fun z => by have := hkk z; omega) (fun z _ z2 => absurd (hkk z) z2) hQ
                refine wq_l 107 d203_106 rfl rfl rfl rfl ?_
                refine wq_v 110 [] d203_107 rfl rfl m222 rfl rfl (Nat.le_of_ble_eq_true rfl) rfl (sp222 hT3 h03 hq ⟨fun z e' => ?_, fun z => ?_⟩)
                · exact wq_g 118 d203_110 (by decide) (wq_rv d203_118 (hz.1 z e'))
                · exact wq_g 118 d203_110 (by decide) (wq_rv d203_118 (hz.2 z))
            · -- pc 93
              have hdg : lx_dg (t q) = true := by simpa only [i_lt, i_le, i_eq, ne_eq, Int32.reduceToInt, b2_0, b2_1, decide_eq_true_eq, decide_eq_false_iff_not, Bool.not_eq_true, Bool.not_eq_false] using c90
              have hk : lx_tok t M q (lx_at t M lx_ns j).2 = (lx_num t M q, (lx_at t M lx_ns j).2) := by unfold lx_tok; rw [if_neg (by omega), if_neg hT2]; exact if_pos hdg
              have hkk : (lx_num t M q).1 ≠ 45 → (lx_num t M q).1 = 42 := fun z => by obtain ⟨v, e, g1, _⟩ := lx_num_e hq hdg z; rw [g1]
              have hz := rq_one (Q := Q) hF3 h03 hN3 (by rw [hok, hk]) (fun z => by have := hkk z; omega) (fun z z2 => absurd (hkk z) z2) hQ
              refine wq_l 94 d203_93 rfl rfl rfl rfl ?_
              refine wq_v 97 [] d203_94 rfl rfl m221 rfl rfl (Nat.le_of_ble_eq_true rfl) rfl (sp221 hT3 h03 hq hdg ⟨fun z e' => ?_, fun z => ?_⟩)
              · exact wq_g 118 d203_97 (by decide) (wq_rv d203_118 (hz.1 z e'))
              · exact wq_g 118 d203_97 (by decide) (wq_rv d203_118 (hz.2 z))
          · -- pc 79
            have hl : rx_l (t q) = true := by simpa only [i_lt, i_le, i_eq, ne_eq, Int32.reduceToInt, b2_0, b2_1, decide_eq_true_eq, decide_eq_false_iff_not, Bool.not_eq_true, Bool.not_eq_false] using c76
            have hl2 := of_decide_eq_true hl
            have hnp : lx_np (t q) = true := by unfold lx_np; exact decide_eq_true (by omega)
            have hdg : ¬ lx_dg (t q) = true := by unfold lx_dg; simp only [decide_eq_true_eq]; omega
            have hk : lx_tok t M q (lx_at t M lx_ns j).2 = lx_nam t M q (lx_at t M lx_ns j).2 := by unfold lx_tok; rw [if_neg (by omega), if_neg hT2, if_neg hdg]; exact if_pos hnp
            have hx : lx_nx t M (lx_at t M lx_ns j) = (q, lx_nam t M q (lx_at t M lx_ns j).2) := by rw [hok, hk]
            have hkj : lx_k t M lx_ns j = (lx_nam t M q (lx_at t M lx_ns j).2).1.1 := by unfold lx_k; rw [hx]
            have hpj : lx_p t M lx_ns j = q := by unfold lx_p; rw [hx]
            have hvj : lx_v t M lx_ns j = (lx_nam t M q (lx_at t M lx_ns j).2).1.2.1 := by unfold lx_v; rw [hx]
            have hej : (lx_at t M lx_ns (j + 1)).1 = (lx_nam t M q (lx_at t M lx_ns j).2).1.2.2 := by show (lx_nx t M (lx_at t M lx_ns j)).2.1.2.2 = _; rw [hx]
            have hq2 : 2 * (rq_ps t M j).length ≤ q := by
              rcases Nat.eq_or_lt_of_le sb1 with z | z
              · have := rJ.2 (by rw [z, show lx_i t M q = (t q : Int) from if_pos hq]; exact hnp); omega
              · have := rJ.1; omega
            have hbig : 32 < lx_ne t M q - q → lx_nam t M q (lx_at t M lx_ns j).2 = ((45, 3, q), (lx_at t M lx_ns j).2) := fun z => if_pos z
            have hsm : ¬ 32 < lx_ne t M q - q → (lx_nam t M q (lx_at t M lx_ns j).2).1.1 ≠ 45 := fun z => by
              unfold lx_nam
              rw [if_neg z]
              by_cases y : nt_w t q (lx_ne t M q) ∈ (lx_at t M lx_ns j).2
              · rw [if_pos y]; show min _ 41 ≠ 45; omega
              · rw [if_neg y]; show min _ 41 ≠ 45; omega
            have hkn : ¬ 32 < lx_ne t M q - q → lx_k t M lx_ns j ≠ 45 := fun z => by rw [hkj]; exact hsm z
            have hst : ¬ 32 < lx_ne t M q - q → (∃ v, lx_k t M lx_ns j = min v 41 ∧ (v < 41 → nt_w t q (lx_ne t M q) = rx_W v) ∧ (41 ≤ v → ∀ w, w < 41 → ¬ nt_w t q (lx_ne t M q) = rx_W w)) ∧ (lx_at t M lx_ns (j + 1)).1 = lx_ne t M q := fun z => by
              obtain ⟨v, g1, g2, g3, g4, g5, g6, g7⟩ := lx_nam_e hq hM hnp hJq (hsm z)
              have hJ6 : lx_J t M q (lx_nam t M q (lx_at t M lx_ns j).2).2 → True := fun _ => trivial
              refine ⟨⟨v, by rw [hkj, g1], fun hv => ?_, fun hv w hw hz => ?_⟩, by rw [hej, g1]⟩
              · obtain ⟨rest, hr⟩ := g6.2.2.2.2
                have hr : lx_ns ++ rest = _ := hr
                have hl9 : lx_ns.length = 75 := nl_N_len.1
                rw [← hr, List.getElem?_append_left (by omega)] at g7
                have h2 : (lx_ns.take 41)[v]? = some (nt_w t q (lx_ne t M q)) := by rw [List.getElem?_take_of_lt hv]; exact g7
                rw [rx_ws_e] at h2
                unfold rx_W
                rw [List.getD_eq_getElem?_getD, h2]
                rfl
              · have h3 := rx_nmn g6 hw
                rw [← hz] at h3
                have := (lx_idx g6.1 h3).1
                have := (lx_idx g6.1 g7).1
                omega
            refine wq_l 80 d203_79 rfl rfl rfl rfl ?_
            refine wq_v 83 [] d203_80 rfl rfl m215 rfl rfl (Nat.le_of_ble_eq_true rfl) rfl (sp215 hT3 h03.1 hq hnp hN3 (fun z => ?_) (fun z w hw he => ?_) (fun z hno2 i pp hi he => ?_) (fun z hno2 hnone => ⟨by omega, fun σ' hs hf => ?_⟩))
            · refine wq_g 118 d203_83 (by decide) (wq_rv d203_118 (hQ _ (rq_Fp (rq_Fp (rq_Fp hF3 (by decide)) (by decide)) (by decide)) ⟨fun _ => ⟨by rw [hvj, hbig z]; rfl, by rw [hpj]; rfl⟩, fun y => absurd (by rw [hkj, hbig z]) y⟩))
            · obtain ⟨⟨v, v1, v2, v3⟩, v4⟩ := hst z
              have hv : v < 41 := by
                rcases Nat.lt_or_ge v 41 with y | y
                · exact y
                · exact absurd he (v3 y w hw)
              have hvw : v = w := by
                have h1 := v2 hv
                rw [he] at h1
                have a1 : rx_ws[w]? = some (rx_W w) := by unfold rx_W; rw [List.getD_eq_getElem?_getD, List.getElem?_eq_getElem (show w < rx_ws.length from hw)]; rfl
                have a2 : rx_ws[v]? = some (rx_W w) := by rw [h1]; unfold rx_W; rw [List.getD_eq_getElem?_getD, List.getElem?_eq_getElem (show v < rx_ws.length from hv)]; rfl
                have b1 := (lx_idx rx_W_nd a1).1
                have b2 := (lx_idx rx_W_nd a2).1
                omega
              subst hvw
              have hk5 : lx_k t M lx_ns j = v := by omega
              refine wq_g 118 d203_83 (by decide) (wq_rv d203_118 (hQ _ (rq_Fp (rq_Fp hF3 (by decide)) (by decide)) ⟨fun y => absurd y (hkn z), fun _ => ⟨h03.1, by rw [v4]; rfl, ?_, by rw [hpj]; exact h03.2.1, ?_, ?_⟩⟩))
              · rw [hk5]; show nI (100 + v) = rx_c v; unfold rx_c; rw [if_pos hv]
              · unfold rq_v; rw [hk5, if_neg (by omega), if_neg (by omega)]; exact h03.2.2
              · rw [show rq_ps t M (j + 1) = rq_ps t M j from if_neg (fun y => by omega)]
                exact rx_N_pi (by decide) (rx_N_pi (by decide) hN3)
            · obtain ⟨⟨v, v1, v2, v3⟩, v4⟩ := hst z
              have hv : 41 ≤ v := by
                rcases Nat.lt_or_ge v 41 with y | y
                · exact absurd (v2 y) (hno2 v y)
                · exact y
              have hk5 : lx_k t M lx_ns j = 41 := by omega
              have hw : rq_w t M j = nt_w t q (lx_ne t M q) := by unfold rq_w; rw [hpj, v4]
              have hps : rq_ps t M (j + 1) = rq_ps t M j := if_neg (fun y => rq_hf.mp y.2 pp (List.mem_of_getElem? hi) (by rw [hw]; exact he))
              refine wq_g 118 d203_83 (by decide) (wq_rv d203_118 (hQ _ (rq_Fp (rq_Fp (rq_Fp hF3 (by decide)) (by decide)) (by decide)) ⟨fun y => absurd y (hkn z), fun _ => ⟨h03.1, by rw [v4]; rfl, by rw [hk5]; rfl, by rw [hpj]; exact h03.2.1, ?_, ?_⟩⟩))
              · show nI i = _; unfold rq_v; rw [if_pos hk5, hps, hw, rq_i rD hi he]
              · rw [hps]; exact rx_N_pi (by decide) (rx_N_pi (by decide) (rx_N_pi (by decide) hN3))
            · obtain ⟨⟨v, v1, v2, v3⟩, v4⟩ := hst z
              have hv : 41 ≤ v := by
                rcases Nat.lt_or_ge v 41 with y | y
                · exact absurd (v2 y) (hno2 v y)
                · exact y
              have hk5 : lx_k t M lx_ns j = 41 := by omega
              have hw : rq_w t M j = nt_w t q (lx_ne t M q) := by unfold rq_w; rw [hpj, v4]
              have hps : rq_ps t M (j + 1) = rq_ps t M j ++ [(q, lx_ne t M q - q)] := by
                show (if _ then _ else _) = _
                rw [if_pos ⟨hk5, rq_hf.mpr (fun pp hpp => by rw [hw]; exact hnone pp hpp)⟩, hpj, v4]
              have hle : q ≤ lx_ne t M q := lx_neB.1
              have hwq : rx_wd t (q, lx_ne t M q - q) = nt_w t q (lx_ne t M q) := by unfold rx_wd; rw [show q + (lx_ne t M q - q) = lx_ne t M q by omega]
              have hD2 : rq_D t (rq_ps t M j ++ [(q, lx_ne t M q - q)]) := rq_Da rD (fun pp hpp => by rw [hwq]; exact hnone pp hpp)
              obtain ⟨f1, f2, f3⟩ := hf
              refine wq_g 118 d203_83 (by decide) (wq_rv d203_118 (hQ _ (rq_Fp (rq_Fx (rq_Fp (rq_Fp hF3 (by decide)) (by decide)) ⟨f1, f2, f3⟩) (by decide)) ⟨fun y => absurd y (hkn z), fun _ => ⟨(f1 10 6 (by decide)).trans h03.1, by rw [v4]; exact f1 10 2 (by decide), by rw [hk5]; exact f1 10 3 (by decide), by rw [hpj]; exact (f1 10 4 (by decide)).trans h03.2.1, ?_, ?_⟩⟩))
              · show nI _ = _; unfold rq_v; rw [if_pos hk5, hps, hw, rq_i (i := (rq_ps t M j).length) (p := (q, lx_ne t M q - q)) hD2 (by rw [List.getElem?_append_right (Nat.le_refl _), Nat.sub_self]; rfl) hwq]
              · rw [hps]; exact rx_N_pi (by decide) hs
        · -- pc 65
          have hT2 : (t q = 84 ∨ t q = 116) ∧ lx_i t M (q + 1) = 35 := by first | (have z1 := c46; have z2 := c62; simp only [i_lt, i_le, i_eq, ne_eq, Int32.reduceToInt, b2_0, b2_1, decide_eq_true_eq, decide_eq_false_iff_not, Bool.not_eq_true, Bool.not_eq_false, et, e1] at z1 z2; exact ⟨by omega, by omega⟩) | (have z1 := c52; have z2 := c62; simp only [i_lt, i_le, i_eq, ne_eq, Int32.reduceToInt, b2_0, b2_1, decide_eq_true_eq, decide_eq_false_iff_not, Bool.not_eq_true, Bool.not_eq_false, et, e1] at z1 z2; exact ⟨by omega, by omega⟩)
          have hq1 : q + 1 < M := lx_i_in (t := t) (M := M) (p := q + 1) (by rw [hT2.2]; decide)
          have hk : lx_tok t M q (lx_at t M lx_ns j).2 = (lx_tim t M q, (lx_at t M lx_ns j).2) := by unfold lx_tok; rw [if_neg (by omega)]; exact if_pos hT2
          have hkk : (lx_tim t M q).1 ≠ 45 → (lx_tim t M q).1 = 42 := fun z => by obtain ⟨v, e, g1, _⟩ := lx_tim_e hq1 z; rw [g1]
          have hz := rq_one (Q := Q) hF3 h03 hN3 (by rw [hok, hk]) (fun z => by have := hkk z; omega) (fun z z2 => absurd (hkk z) z2) hQ
          refine wq_l 66 d203_65 rfl rfl rfl rfl ?_
          refine wq_v 69 [] d203_66 rfl rfl m207 rfl rfl (Nat.le_of_ble_eq_true rfl) rfl (sp207 hT3 h03 hq1 ⟨fun z e' => ?_, fun z => ?_⟩)
          · exact wq_g 118 d203_69 (by decide) (wq_rv d203_118 (hz.1 z e'))
          · exact wq_g 118 d203_69 (by decide) (wq_rv d203_118 (hz.2 z))
      · -- pc 49
        refine wq_l 50 d203_49 rfl rfl rfl rfl ?_
        refine wq_k 52 116 d203_50 (by decide) rfl ?_
        refine wq_b 72 55 d203_52 rfl (by decide) rfl (fun c52 => ?_) (fun c52 => ?_)
        · -- pc 72
          have hT2 : ¬ ((t q = 84 ∨ t q = 116) ∧ lx_i t M (q + 1) = 35) := by rintro ⟨z3, z4⟩; first | (have z1 := c46; have z2 := c52; simp only [i_lt, i_le, i_eq, ne_eq, Int32.reduceToInt, b2_0, b2_1, decide_eq_true_eq, decide_eq_false_iff_not, Bool.not_eq_true, Bool.not_eq_false, et] at z1 z2; omega) | (have z2 := c62; simp only [i_lt, i_le, i_eq, ne_eq, Int32.reduceToInt, b2_0, b2_1, decide_eq_true_eq, decide_eq_false_iff_not, Bool.not_eq_true, Bool.not_eq_false, e1] at z2; omega)
          refine wq_l 73 d203_72 rfl rfl rfl rfl ?_
          refine wq_vs 76 [_] d203_73 rfl rfl m214 rfl (Nat.le_of_ble_eq_true rfl) rfl (sp214 ?_)
          rw [et]
          refine wq_b 86 79 d203_76 rfl (by decide) rfl (fun c76 => ?_) (fun c76 => ?_)
          · -- pc 86
            have hl : rx_l (t q) = false := by simpa only [i_lt, i_le, i_eq, ne_eq, Int32.reduceToInt, b2_0, b2_1, decide_eq_true_eq, decide_eq_false_iff_not, Bool.not_eq_true, Bool.not_eq_false] using c76
            have hl2 := of_decide_eq_false hl
            refine wq_l 87 d203_86 rfl rfl rfl rfl ?_
            refine wq_vs 90 [_] d203_87 rfl rfl m210 rfl (Nat.le_of_ble_eq_true rfl) rfl (sp210 ?_)
            rw [et]
            refine wq_b 100 93 d203_90 rfl (by decide) rfl (fun c90 => ?_) (fun c90 => ?_)
            · -- pc 100
              have hdg : ¬ lx_dg (t q) = true := by simpa only [i_lt, i_le, i_eq, ne_eq, Int32.reduceToInt, b2_0, b2_1, decide_eq_true_eq, decide_eq_false_iff_not, Bool.not_eq_true, Bool.not_eq_false] using c90
              have hdg2 : ¬ (48 ≤ (t q : Int) ∧ (t q : Int) ≤ 57) := fun z => hdg (decide_eq_true z)
              have hnp : ¬ lx_np (t q) = true := fun z => by have z := of_decide_eq_true z; omega
              refine wq_l 101 d203_100 rfl rfl rfl rfl ?_
              refine wq_k 103 37 d203_101 (by decide) rfl ?_
              refine wq_b 113 106 d203_103 rfl (by decide) rfl (fun c103 => ?_) (fun c103 => ?_)
              · -- pc 113
                have h37 : ¬ t q = 37 := by have z := c103; simp only [i_lt, i_le, i_eq, ne_eq, Int32.reduceToInt, b2_0, b2_1, decide_eq_true_eq, decide_eq_false_iff_not, Bool.not_eq_true, Bool.not_eq_false, et] at z; omega
                have hk : lx_tok t M q (lx_at t M lx_ns j).2 = (lx_sgn t M q, (lx_at t M lx_ns j).2) := by unfold lx_tok; rw [if_neg (by omega), if_neg hT2, if_neg hdg, if_neg hnp]; exact if_neg h37
                have hkk : (lx_sgn t M q).1 ≠ 45 → 47 ≤ (lx_sgn t M q).1 ∧ (lx_sgn t M q).2.1 = 0 := fun z => by obtain ⟨k, e, g1, g2, _⟩ := lx_sgn_e hq z; rw [g1]; exact ⟨g2.1, rfl⟩
                have hz := rq_one (Q := Q) hF3 h03 hN3 (by rw [hok, hk]) (fun z => by have := hkk z; omega) (fun z _ _ => (hkk z).2) hQ
                refine wq_l 114 d203_113 rfl rfl rfl rfl ?_
                refine wq_l 115 d203_114 rfl rfl rfl rfl ?_
                refine wq_v 118 [_] d203_115 rfl rfl m223 rfl rfl (Nat.le_of_ble_eq_true rfl) rfl (sp223 hT3 h03 hq ⟨fun z e' => ?_, fun z => ?_⟩)
                · exact wq_rv d203_118 (hz.1 z e')
                · exact wq_rv d203_118 (hz.2 z)
              · -- pc 106
                have h37 : t q = 37 := by have z := c103; simp only [i_lt, i_le, i_eq, ne_eq, Int32.reduceToInt, b2_0, b2_1, decide_eq_true_eq, decide_eq_false_iff_not, Bool.not_eq_true, Bool.not_eq_false, et] at z; omega
                have hk : lx_tok t M q (lx_at t M lx_ns j).2 = (lx_pla t M q, (lx_at t M lx_ns j).2) := by unfold lx_tok; rw [if_neg (by omega), if_neg hT2, if_neg hdg, if_neg hnp]; exact if_pos h37
                have hkk : (lx_pla t M q).1 ≠ 45 → (lx_pla t M q).1 = 43 := fun z => by obtain ⟨v, e, g1, _⟩ := lx_pla_e z; rw [g1]
                have hz := rq_one (Q := Q) hF3 h03 hN3 (by rw [hok, hk]) (fun z => by have := hkk z; omega) (fun z _ z2 => absurd (hkk z) z2) hQ
                refine wq_l 107 d203_106 rfl rfl rfl rfl ?_
                refine wq_v 110 [] d203_107 rfl rfl m222 rfl rfl (Nat.le_of_ble_eq_true rfl) rfl (sp222 hT3 h03 hq ⟨fun z e' => ?_, fun z => ?_⟩)
                · exact wq_g 118 d203_110 (by decide) (wq_rv d203_118 (hz.1 z e'))
                · exact wq_g 118 d203_110 (by decide) (wq_rv d203_118 (hz.2 z))
            · -- pc 93
              have hdg : lx_dg (t q) = true := by simpa only [i_lt, i_le, i_eq, ne_eq, Int32.reduceToInt, b2_0, b2_1, decide_eq_true_eq, decide_eq_false_iff_not, Bool.not_eq_true, Bool.not_eq_false] using c90
              have hk : lx_tok t M q (lx_at t M lx_ns j).2 = (lx_num t M q, (lx_at t M lx_ns j).2) := by unfold lx_tok; rw [if_neg (by omega), if_neg hT2]; exact if_pos hdg
              have hkk : (lx_num t M q).1 ≠ 45 → (lx_num t M q).1 = 42 := fun z => by obtain ⟨v, e, g1, _⟩ := lx_num_e hq hdg z; rw [g1]
              have hz := rq_one (Q := Q) hF3 h03 hN3 (by rw [hok, hk]) (fun z => by have := hkk z; omega) (fun z z2 => absurd (hkk z) z2) hQ
              refine wq_l 94 d203_93 rfl rfl rfl rfl ?_
              refine wq_v 97 [] d203_94 rfl rfl m221 rfl rfl (Nat.le_of_ble_eq_true rfl) rfl (sp221 hT3 h03 hq hdg ⟨fun z e' => ?_, fun z => ?_⟩)
              · exact wq_g 118 d203_97 (by decide) (wq_rv d203_118 (hz.1 z e'))
              · exact wq_g 118 d203_97 (by decide) (wq_rv d203_118 (hz.2 z))
          · -- pc 79
            have hl : rx_l (t q) = true := by simpa only [i_lt, i_le, i_eq, ne_eq, Int32.reduceToInt, b2_0, b2_1, decide_eq_true_eq, decide_eq_false_iff_not, Bool.not_eq_true, Bool.not_eq_false] using c76
            have hl2 := of_decide_eq_true hl
            have hnp : lx_np (t q) = true := by unfold lx_np; exact decide_eq_true (by omega)
            have hdg : ¬ lx_dg (t q) = true := by unfold lx_dg; simp only [decide_eq_true_eq]; omega
            have hk : lx_tok t M q (lx_at t M lx_ns j).2 = lx_nam t M q (lx_at t M lx_ns j).2 := by unfold lx_tok; rw [if_neg (by omega), if_neg hT2, if_neg hdg]; exact if_pos hnp
            have hx : lx_nx t M (lx_at t M lx_ns j) = (q, lx_nam t M q (lx_at t M lx_ns j).2) := by rw [hok, hk]
            have hkj : lx_k t M lx_ns j = (lx_nam t M q (lx_at t M lx_ns j).2).1.1 := by unfold lx_k; rw [hx]
            have hpj : lx_p t M lx_ns j = q := by unfold lx_p; rw [hx]
            have hvj : lx_v t M lx_ns j = (lx_nam t M q (lx_at t M lx_ns j).2).1.2.1 := by unfold lx_v; rw [hx]
            have hej : (lx_at t M lx_ns (j + 1)).1 = (lx_nam t M q (lx_at t M lx_ns j).2).1.2.2 := by show (lx_nx t M (lx_at t M lx_ns j)).2.1.2.2 = _; rw [hx]
            have hq2 : 2 * (rq_ps t M j).length ≤ q := by
              rcases Nat.eq_or_lt_of_le sb1 with z | z
              · have := rJ.2 (by rw [z, show lx_i t M q = (t q : Int) from if_pos hq]; exact hnp); omega
              · have := rJ.1; omega
            have hbig : 32 < lx_ne t M q - q → lx_nam t M q (lx_at t M lx_ns j).2 = ((45, 3, q), (lx_at t M lx_ns j).2) := fun z => if_pos z
            have hsm : ¬ 32 < lx_ne t M q - q → (lx_nam t M q (lx_at t M lx_ns j).2).1.1 ≠ 45 := fun z => by
              unfold lx_nam
              rw [if_neg z]
              by_cases y : nt_w t q (lx_ne t M q) ∈ (lx_at t M lx_ns j).2
              · rw [if_pos y]; show min _ 41 ≠ 45; omega
              · rw [if_neg y]; show min _ 41 ≠ 45; omega
            have hkn : ¬ 32 < lx_ne t M q - q → lx_k t M lx_ns j ≠ 45 := fun z => by rw [hkj]; exact hsm z
            have hst : ¬ 32 < lx_ne t M q - q → (∃ v, lx_k t M lx_ns j = min v 41 ∧ (v < 41 → nt_w t q (lx_ne t M q) = rx_W v) ∧ (41 ≤ v → ∀ w, w < 41 → ¬ nt_w t q (lx_ne t M q) = rx_W w)) ∧ (lx_at t M lx_ns (j + 1)).1 = lx_ne t M q := fun z => by
              obtain ⟨v, g1, g2, g3, g4, g5, g6, g7⟩ := lx_nam_e hq hM hnp hJq (hsm z)
              have hJ6 : lx_J t M q (lx_nam t M q (lx_at t M lx_ns j).2).2 → True := fun _ => trivial
              refine ⟨⟨v, by rw [hkj, g1], fun hv => ?_, fun hv w hw hz => ?_⟩, by rw [hej, g1]⟩
              · obtain ⟨rest, hr⟩ := g6.2.2.2.2
                have hr : lx_ns ++ rest = _ := hr
                have hl9 : lx_ns.length = 75 := nl_N_len.1
                rw [← hr, List.getElem?_append_left (by omega)] at g7
                have h2 : (lx_ns.take 41)[v]? = some (nt_w t q (lx_ne t M q)) := by rw [List.getElem?_take_of_lt hv]; exact g7
                rw [rx_ws_e] at h2
                unfold rx_W
                rw [List.getD_eq_getElem?_getD, h2]
                rfl
              · have h3 := rx_nmn g6 hw
                rw [← hz] at h3
                have := (lx_idx g6.1 h3).1
                have := (lx_idx g6.1 g7).1
                omega
            refine wq_l 80 d203_79 rfl rfl rfl rfl ?_
            refine wq_v 83 [] d203_80 rfl rfl m215 rfl rfl (Nat.le_of_ble_eq_true rfl) rfl (sp215 hT3 h03.1 hq hnp hN3 (fun z => ?_) (fun z w hw he => ?_) (fun z hno2 i pp hi he => ?_) (fun z hno2 hnone => ⟨by omega, fun σ' hs hf => ?_⟩))
            · refine wq_g 118 d203_83 (by decide) (wq_rv d203_118 (hQ _ (rq_Fp (rq_Fp (rq_Fp hF3 (by decide)) (by decide)) (by decide)) ⟨fun _ => ⟨by rw [hvj, hbig z]; rfl, by rw [hpj]; rfl⟩, fun y => absurd (by rw [hkj, hbig z]) y⟩))
            · obtain ⟨⟨v, v1, v2, v3⟩, v4⟩ := hst z
              have hv : v < 41 := by
                rcases Nat.lt_or_ge v 41 with y | y
                · exact y
                · exact absurd he (v3 y w hw)
              have hvw : v = w := by
                have h1 := v2 hv
                rw [he] at h1
                have a1 : rx_ws[w]? = some (rx_W w) := by unfold rx_W; rw [List.getD_eq_getElem?_getD, List.getElem?_eq_getElem (show w < rx_ws.length from hw)]; rfl
                have a2 : rx_ws[v]? = some (rx_W w) := by rw [h1]; unfold rx_W; rw [List.getD_eq_getElem?_getD, List.getElem?_eq_getElem (show v < rx_ws.length from hv)]; rfl
                have b1 := (lx_idx rx_W_nd a1).1
                have b2 := (lx_idx rx_W_nd a2).1
                omega
              subst hvw
              have hk5 : lx_k t M lx_ns j = v := by omega
              refine wq_g 118 d203_83 (by decide) (wq_rv d203_118 (hQ _ (rq_Fp (rq_Fp hF3 (by decide)) (by decide)) ⟨fun y => absurd y (hkn z), fun _ => ⟨h03.1, by rw [v4]; rfl, ?_, by rw [hpj]; exact h03.2.1, ?_, ?_⟩⟩))
              · rw [hk5]; show nI (100 + v) = rx_c v; unfold rx_c; rw [if_pos hv]
              · unfold rq_v; rw [hk5, if_neg (by omega), if_neg (by omega)]; exact h03.2.2
              · rw [show rq_ps t M (j + 1) = rq_ps t M j from if_neg (fun y => by omega)]
                exact rx_N_pi (by decide) (rx_N_pi (by decide) hN3)
            · obtain ⟨⟨v, v1, v2, v3⟩, v4⟩ := hst z
              have hv : 41 ≤ v := by
                rcases Nat.lt_or_ge v 41 with y | y
                · exact absurd (v2 y) (hno2 v y)
                · exact y
              have hk5 : lx_k t M lx_ns j = 41 := by omega
              have hw : rq_w t M j = nt_w t q (lx_ne t M q) := by unfold rq_w; rw [hpj, v4]
              have hps : rq_ps t M (j + 1) = rq_ps t M j := if_neg (fun y => rq_hf.mp y.2 pp (List.mem_of_getElem? hi) (by rw [hw]; exact he))
              refine wq_g 118 d203_83 (by decide) (wq_rv d203_118 (hQ _ (rq_Fp (rq_Fp (rq_Fp hF3 (by decide)) (by decide)) (by decide)) ⟨fun y => absurd y (hkn z), fun _ => ⟨h03.1, by rw [v4]; rfl, by rw [hk5]; rfl, by rw [hpj]; exact h03.2.1, ?_, ?_⟩⟩))
              · show nI i = _; unfold rq_v; rw [if_pos hk5, hps, hw, rq_i rD hi he]
              · rw [hps]; exact rx_N_pi (by decide) (rx_N_pi (by decide) (rx_N_pi (by decide) hN3))
            · obtain ⟨⟨v, v1, v2, v3⟩, v4⟩ := hst z
              have hv : 41 ≤ v := by
                rcases Nat.lt_or_ge v 41 with y | y
                · exact absurd (v2 y) (hno2 v y)
                · exact y
              have hk5 : lx_k t M lx_ns j = 41 := by omega
              have hw : rq_w t M j = nt_w t q (lx_ne t M q) := by unfold rq_w; rw [hpj, v4]
              have hps : rq_ps t M (j + 1) = rq_ps t M j ++ [(q, lx_ne t M q - q)] := by
                show (if _ then _ else _) = _
                rw [if_pos ⟨hk5, rq_hf.mpr (fun pp hpp => by rw [hw]; exact hnone pp hpp)⟩, hpj, v4]
              have hle : q ≤ lx_ne t M q := lx_neB.1
              have hwq : rx_wd t (q, lx_ne t M q - q) = nt_w t q (lx_ne t M q) := by unfold rx_wd; rw [show q + (lx_ne t M q - q) = lx_ne t M q by omega]
              have hD2 : rq_D t (rq_ps t M j ++ [(q, lx_ne t M q - q)]) := rq_Da rD (fun pp hpp => by rw [hwq]; exact hnone pp hpp)
              obtain ⟨f1, f2, f3⟩ := hf
              refine wq_g 118 d203_83 (by decide) (wq_rv d203_118 (hQ _ (rq_Fp (rq_Fx (rq_Fp (rq_Fp hF3 (by decide)) (by decide)) ⟨f1, f2, f3⟩) (by decide)) ⟨fun y => absurd y (hkn z), fun _ => ⟨(f1 10 6 (by decide)).trans h03.1, by rw [v4]; exact f1 10 2 (by decide), by rw [hk5]; exact f1 10 3 (by decide), by rw [hpj]; exact (f1 10 4 (by decide)).trans h03.2.1, ?_, ?_⟩⟩))
              · show nI _ = _; unfold rq_v; rw [if_pos hk5, hps, hw, rq_i (i := (rq_ps t M j).length) (p := (q, lx_ne t M q - q)) hD2 (by rw [List.getElem?_append_right (Nat.le_refl _), Nat.sub_self]; rfl) hwq]
              · rw [hps]; exact rx_N_pi (by decide) hs
        · -- pc 55
          refine wq_l 56 d203_55 rfl rfl rfl rfl ?_
          refine wq_k 57 1 d203_56 (by decide) rfl ?_
          refine wq_v 60 [_] d203_57 rfl rfl m205 rfl rfl (Nat.le_of_ble_eq_true rfl) rfl (sp205 (k := 1) hT3 (by omega) ?_)
          refine wq_k 62 35 d203_60 (by decide) rfl ?_
          refine wq_b 72 65 d203_62 rfl (by decide) rfl (fun c62 => ?_) (fun c62 => ?_)
          · -- pc 72
            have hT2 : ¬ ((t q = 84 ∨ t q = 116) ∧ lx_i t M (q + 1) = 35) := by rintro ⟨z3, z4⟩; first | (have z1 := c46; have z2 := c52; simp only [i_lt, i_le, i_eq, ne_eq, Int32.reduceToInt, b2_0, b2_1, decide_eq_true_eq, decide_eq_false_iff_not, Bool.not_eq_true, Bool.not_eq_false, et] at z1 z2; omega) | (have z2 := c62; simp only [i_lt, i_le, i_eq, ne_eq, Int32.reduceToInt, b2_0, b2_1, decide_eq_true_eq, decide_eq_false_iff_not, Bool.not_eq_true, Bool.not_eq_false, e1] at z2; omega)
            refine wq_l 73 d203_72 rfl rfl rfl rfl ?_
            refine wq_vs 76 [_] d203_73 rfl rfl m214 rfl (Nat.le_of_ble_eq_true rfl) rfl (sp214 ?_)
            rw [et]
            refine wq_b 86 79 d203_76 rfl (by decide) rfl (fun c76 => ?_) (fun c76 => ?_)
            · -- pc 86
              have hl : rx_l (t q) = false := by simpa only [i_lt, i_le, i_eq, ne_eq, Int32.reduceToInt, b2_0, b2_1, decide_eq_true_eq, decide_eq_false_iff_not, Bool.not_eq_true, Bool.not_eq_false] using c76
              have hl2 := of_decide_eq_false hl
              refine wq_l 87 d203_86 rfl rfl rfl rfl ?_
              refine wq_vs 90 [_] d203_87 rfl rfl m210 rfl (Nat.le_of_ble_eq_true rfl) rfl (sp210 ?_)
              rw [et]
              refine wq_b 100 93 d203_90 rfl (by decide) rfl (fun c90 => ?_) (fun c90 => ?_)
              · -- pc 100
                have hdg : ¬ lx_dg (t q) = true := by simpa only [i_lt, i_le, i_eq, ne_eq, Int32.reduceToInt, b2_0, b2_1, decide_eq_true_eq, decide_eq_false_iff_not, Bool.not_eq_true, Bool.not_eq_false] using c90
                have hdg2 : ¬ (48 ≤ (t q : Int) ∧ (t q : Int) ≤ 57) := fun z => hdg (decide_eq_true z)
                have hnp : ¬ lx_np (t q) = true := fun z => by have z := of_decide_eq_true z; omega
                refine wq_l 101 d203_100 rfl rfl rfl rfl ?_
                refine wq_k 103 37 d203_101 (by decide) rfl ?_
                refine wq_b 113 106 d203_103 rfl (by decide) rfl (fun c103 => ?_) (fun c103 => ?_)
                · -- pc 113
                  have h37 : ¬ t q = 37 := by have z := c103; simp only [i_lt, i_le, i_eq, ne_eq, Int32.reduceToInt, b2_0, b2_1, decide_eq_true_eq, decide_eq_false_iff_not, Bool.not_eq_true, Bool.not_eq_false, et] at z; omega
                  have hk : lx_tok t M q (lx_at t M lx_ns j).2 = (lx_sgn t M q, (lx_at t M lx_ns j).2) := by unfold lx_tok; rw [if_neg (by omega), if_neg hT2, if_neg hdg, if_neg hnp]; exact if_neg h37
                  have hkk : (lx_sgn t M q).1 ≠ 45 → 47 ≤ (lx_sgn t M q).1 ∧ (lx_sgn t M q).2.1 = 0 := fun z => by obtain ⟨k, e, g1, g2, _⟩ := lx_sgn_e hq z; rw [g1]; exact ⟨g2.1, rfl⟩
                  have hz := rq_one (Q := Q) hF3 h03 hN3 (by rw [hok, hk]) (fun z => by have := hkk z; omega) (fun z _ _ => (hkk z).2) hQ
                  refine wq_l 114 d203_113 rfl rfl rfl rfl ?_
                  refine wq_l 115 d203_114 rfl rfl rfl rfl ?_
                  refine wq_v 118 [_] d203_115 rfl rfl m223 rfl rfl (Nat.le_of_ble_eq_true rfl) rfl (sp223 hT3 h03 hq ⟨fun z e' => ?_, fun z => ?_⟩)
                  · exact wq_rv d203_118 (hz.1 z e')
                  · exact wq_rv d203_118 (hz.2 z)
                · -- pc 106
                  have h37 : t q = 37 := by have z := c103; simp only [i_lt, i_le, i_eq, ne_eq, Int32.reduceToInt, b2_0, b2_1, decide_eq_true_eq, decide_eq_false_iff_not, Bool.not_eq_true, Bool.not_eq_false, et] at z; omega
                  have hk : lx_tok t M q (lx_at t M lx_ns j).2 = (lx_pla t M q, (lx_at t M lx_ns j).2) := by unfold lx_tok; rw [if_neg (by omega), if_neg hT2, if_neg hdg, if_neg hnp]; exact if_pos h37
                  have hkk : (lx_pla t M q).1 ≠ 45 → (lx_pla t M q).1 = 43 := fun z => by obtain ⟨v, e, g1, _⟩ := lx_pla_e z; rw [g1]
                  have hz := rq_one (Q := Q) hF3 h03 hN3 (by rw [hok, hk]) (fun z => by have := hkk z; omega) (fun z _ z2 => absurd (hkk z) z2) hQ
                  refine wq_l 107 d203_106 rfl rfl rfl rfl ?_
                  refine wq_v 110 [] d203_107 rfl rfl m222 rfl rfl (Nat.le_of_ble_eq_true rfl) rfl (sp222 hT3 h03 hq ⟨fun z e' => ?_, fun z => ?_⟩)
                  · exact wq_g 118 d203_110 (by decide) (wq_rv d203_118 (hz.1 z e'))
                  · exact wq_g 118 d203_110 (by decide) (wq_rv d203_118 (hz.2 z))
              · -- pc 93
                have hdg : lx_dg (t q) = true := by simpa only [i_lt, i_le, i_eq, ne_eq, Int32.reduceToInt, b2_0, b2_1, decide_eq_true_eq, decide_eq_false_iff_not, Bool.not_eq_true, Bool.not_eq_false] using c90
                have hk : lx_tok t M q (lx_at t M lx_ns j).2 = (lx_num t M q, (lx_at t M lx_ns j).2) := by unfold lx_tok; rw [if_neg (by omega), if_neg hT2]; exact if_pos hdg
                have hkk : (lx_num t M q).1 ≠ 45 → (lx_num t M q).1 = 42 := fun z => by obtain ⟨v, e, g1, _⟩ := lx_num_e hq hdg z; rw [g1]
                have hz := rq_one (Q := Q) hF3 h03 hN3 (by rw [hok, hk]) (fun z => by have := hkk z; omega) (fun z z2 => absurd (hkk z) z2) hQ
                refine wq_l 94 d203_93 rfl rfl rfl rfl ?_
                refine wq_v 97 [] d203_94 rfl rfl m221 rfl rfl (Nat.le_of_ble_eq_true rfl) rfl (sp221 hT3 h03 hq hdg ⟨fun z e' => ?_, fun z => ?_⟩)
                · exact wq_g 118 d203_97 (by decide) (wq_rv d203_118 (hz.1 z e'))
                · exact wq_g 118 d203_97 (by decide) (wq_rv d203_118 (hz.2 z))
            · -- pc 79
              have hl : rx_l (t q) = true := by simpa only [i_lt, i_le, i_eq, ne_eq, Int32.reduceToInt, b2_0, b2_1, decide_eq_true_eq, decide_eq_false_iff_not, Bool.not_eq_true, Bool.not_eq_false] using c76
              have hl2 := of_decide_eq_true hl
              have hnp : lx_np (t q) = true := by unfold lx_np; exact decide_eq_true (by omega)
              have hdg : ¬ lx_dg (t q) = true := by unfold lx_dg; simp only [decide_eq_true_eq]; omega
              have hk : lx_tok t M q (lx_at t M lx_ns j).2 = lx_nam t M q (lx_at t M lx_ns j).2 := by unfold lx_tok; rw [if_neg (by omega), if_neg hT2, if_neg hdg]; exact if_pos hnp
              have hx : lx_nx t M (lx_at t M lx_ns j) = (q, lx_nam t M q (lx_at t M lx_ns j).2) := by rw [hok, hk]
              have hkj : lx_k t M lx_ns j = (lx_nam t M q (lx_at t M lx_ns j).2).1.1 := by unfold lx_k; rw [hx]
              have hpj : lx_p t M lx_ns j = q := by unfold lx_p; rw [hx]
              have hvj : lx_v t M lx_ns j = (lx_nam t M q (lx_at t M lx_ns j).2).1.2.1 := by unfold lx_v; rw [hx]
              have hej : (lx_at t M lx_ns (j + 1)).1 = (lx_nam t M q (lx_at t M lx_ns j).2).1.2.2 := by show (lx_nx t M (lx_at t M lx_ns j)).2.1.2.2 = _; rw [hx]
              have hq2 : 2 * (rq_ps t M j).length ≤ q := by
                rcases Nat.eq_or_lt_of_le sb1 with z | z
                · have := rJ.2 (by rw [z, show lx_i t M q = (t q : Int) from if_pos hq]; exact hnp); omega
                · have := rJ.1; omega
              have hbig : 32 < lx_ne t M q - q → lx_nam t M q (lx_at t M lx_ns j).2 = ((45, 3, q), (lx_at t M lx_ns j).2) := fun z => if_pos z
              have hsm : ¬ 32 < lx_ne t M q - q → (lx_nam t M q (lx_at t M lx_ns j).2).1.1 ≠ 45 := fun z => by
                unfold lx_nam
                rw [if_neg z]
                by_cases y : nt_w t q (lx_ne t M q) ∈ (lx_at t M lx_ns j).2
                · rw [if_pos y]; show min _ 41 ≠ 45; omega
                · rw [if_neg y]; show min _ 41 ≠ 45; omega
              have hkn : ¬ 32 < lx_ne t M q - q → lx_k t M lx_ns j ≠ 45 := fun z => by rw [hkj]; exact hsm z
              have hst : ¬ 32 < lx_ne t M q - q → (∃ v, lx_k t M lx_ns j = min v 41 ∧ (v < 41 → nt_w t q (lx_ne t M q) = rx_W v) ∧ (41 ≤ v → ∀ w, w < 41 → ¬ nt_w t q (lx_ne t M q) = rx_W w)) ∧ (lx_at t M lx_ns (j + 1)).1 = lx_ne t M q := fun z => by
                obtain ⟨v, g1, g2, g3, g4, g5, g6, g7⟩ := lx_nam_e hq hM hnp hJq (hsm z)
                have hJ6 : lx_J t M q (lx_nam t M q (lx_at t M lx_ns j).2).2 → True := fun _ => trivial
                refine ⟨⟨v, by rw [hkj, g1], fun hv => ?_, fun hv w hw hz => ?_⟩, by rw [hej, g1]⟩
                · obtain ⟨rest, hr⟩ := g6.2.2.2.2
                  have hr : lx_ns ++ rest = _ := hr
                  have hl9 : lx_ns.length = 75 := nl_N_len.1
                  rw [← hr, List.getElem?_append_left (by omega)] at g7
                  have h2 : (lx_ns.take 41)[v]? = some (nt_w t q (lx_ne t M q)) := by rw [List.getElem?_take_of_lt hv]; exact g7
                  rw [rx_ws_e] at h2
                  unfold rx_W
                  rw [List.getD_eq_getElem?_getD, h2]
                  rfl
                · have h3 := rx_nmn g6 hw
                  rw [← hz] at h3
                  have := (lx_idx g6.1 h3).1
                  have := (lx_idx g6.1 g7).1
                  omega
              refine wq_l 80 d203_79 rfl rfl rfl rfl ?_
              refine wq_v 83 [] d203_80 rfl rfl m215 rfl rfl (Nat.le_of_ble_eq_true rfl) rfl (sp215 hT3 h03.1 hq hnp hN3 (fun z => ?_) (fun z w hw he => ?_) (fun z hno2 i pp hi he => ?_) (fun z hno2 hnone => ⟨by omega, fun σ' hs hf => ?_⟩))
              · refine wq_g 118 d203_83 (by decide) (wq_rv d203_118 (hQ _ (rq_Fp (rq_Fp (rq_Fp hF3 (by decide)) (by decide)) (by decide)) ⟨fun _ => ⟨by rw [hvj, hbig z]; rfl, by rw [hpj]; rfl⟩, fun y => absurd (by rw [hkj, hbig z]) y⟩))
              · obtain ⟨⟨v, v1, v2, v3⟩, v4⟩ := hst z
                have hv : v < 41 := by
                  rcases Nat.lt_or_ge v 41 with y | y
                  · exact y
                  · exact absurd he (v3 y w hw)
                have hvw : v = w := by
                  have h1 := v2 hv
                  rw [he] at h1
                  have a1 : rx_ws[w]? = some (rx_W w) := by unfold rx_W; rw [List.getD_eq_getElem?_getD, List.getElem?_eq_getElem (show w < rx_ws.length from hw)]; rfl
                  have a2 : rx_ws[v]? = some (rx_W w) := by rw [h1]; unfold rx_W; rw [List.getD_eq_getElem?_getD, List.getElem?_eq_getElem (show v < rx_ws.length from hv)]; rfl
                  have b1 := (lx_idx rx_W_nd a1).1
                  have b2 := (lx_idx rx_W_nd a2).1
                  omega
                subst hvw
                have hk5 : lx_k t M lx_ns j = v := by omega
                refine wq_g 118 d203_83 (by decide) (wq_rv d203_118 (hQ _ (rq_Fp (rq_Fp hF3 (by decide)) (by decide)) ⟨fun y => absurd y (hkn z), fun _ => ⟨h03.1, by rw [v4]; rfl, ?_, by rw [hpj]; exact h03.2.1, ?_, ?_⟩⟩))
                · rw [hk5]; show nI (100 + v) = rx_c v; unfold rx_c; rw [if_pos hv]
                · unfold rq_v; rw [hk5, if_neg (by omega), if_neg (by omega)]; exact h03.2.2
                · rw [show rq_ps t M (j + 1) = rq_ps t M j from if_neg (fun y => by omega)]
                  exact rx_N_pi (by decide) (rx_N_pi (by decide) hN3)
              · obtain ⟨⟨v, v1, v2, v3⟩, v4⟩ := hst z
                have hv : 41 ≤ v := by
                  rcases Nat.lt_or_ge v 41 with y | y
                  · exact absurd (v2 y) (hno2 v y)
                  · exact y
                have hk5 : lx_k t M lx_ns j = 41 := by omega
                have hw : rq_w t M j = nt_w t q (lx_ne t M q) := by unfold rq_w; rw [hpj, v4]
                have hps : rq_ps t M (j + 1) = rq_ps t M j := if_neg (fun y => rq_hf.mp y.2 pp (List.mem_of_getElem? hi) (by rw [hw]; exact he))
                refine wq_g 118 d203_83 (by decide) (wq_rv d203_118 (hQ _ (rq_Fp (rq_Fp (rq_Fp hF3 (by decide)) (by decide)) (by decide)) ⟨fun y => absurd y (hkn z), fun _ => ⟨h03.1, by rw [v4]; rfl, by rw [hk5]; rfl, by rw [hpj]; exact h03.2.1, ?_, ?_⟩⟩))
                · show nI i = _; unfold rq_v; rw [if_pos hk5, hps, hw, rq_i rD hi he]
                · rw [hps]; exact rx_N_pi (by decide) (rx_N_pi (by decide) (rx_N_pi (by decide) hN3))
              · obtain ⟨⟨v, v1, v2, v3⟩, v4⟩ := hst z
                have hv : 41 ≤ v := by
                  rcases Nat.lt_or_ge v 41 with y | y
                  · exact absurd (v2 y) (hno2 v y)
                  · exact y
                have hk5 : lx_k t M lx_ns j = 41 := by omega
                have hw : rq_w t M j = nt_w t q (lx_ne t M q) := by unfold rq_w; rw [hpj, v4]
                have hps : rq_ps t M (j + 1) = rq_ps t M j ++ [(q, lx_ne t M q - q)] := by
                  show (if _ then _ else _) = _
                  rw [if_pos ⟨hk5, rq_hf.mpr (fun pp hpp => by rw [hw]; exact hnone pp hpp)⟩, hpj, v4]
                have hle : q ≤ lx_ne t M q := lx_neB.1
                have hwq : rx_wd t (q, lx_ne t M q - q) = nt_w t q (lx_ne t M q) := by unfold rx_wd; rw [show q + (lx_ne t M q - q) = lx_ne t M q by omega]
                have hD2 : rq_D t (rq_ps t M j ++ [(q, lx_ne t M q - q)]) := rq_Da rD (fun pp hpp => by rw [hwq]; exact hnone pp hpp)
                obtain ⟨f1, f2, f3⟩ := hf
                refine wq_g 118 d203_83 (by decide) (wq_rv d203_118 (hQ _ (rq_Fp (rq_Fx (rq_Fp (rq_Fp hF3 (by decide)) (by decide)) ⟨f1, f2, f3⟩) (by decide)) ⟨fun y => absurd y (hkn z), fun _ => ⟨(f1 10 6 (by decide)).trans h03.1, by rw [v4]; exact f1 10 2 (by decide), by rw [hk5]; exact f1 10 3 (by decide), by rw [hpj]; exact (f1 10 4 (by decide)).trans h03.2.1, ?_, ?_⟩⟩))
                · show nI _ = _; unfold rq_v; rw [if_pos hk5, hps, hw, rq_i (i := (rq_ps t M j).length) (p := (q, lx_ne t M q - q)) hD2 (by rw [List.getElem?_append_right (Nat.le_refl _), Nat.sub_self]; rfl) hwq]
                · rw [hps]; exact rx_N_pi (by decide) hs
          · -- pc 65
            have hT2 : (t q = 84 ∨ t q = 116) ∧ lx_i t M (q + 1) = 35 := by first | (have z1 := c46; have z2 := c62; simp only [i_lt, i_le, i_eq, ne_eq, Int32.reduceToInt, b2_0, b2_1, decide_eq_true_eq, decide_eq_false_iff_not, Bool.not_eq_true, Bool.not_eq_false, et, e1] at z1 z2; exact ⟨by omega, by omega⟩) | (have z1 := c52; have z2 := c62; simp only [i_lt, i_le, i_eq, ne_eq, Int32.reduceToInt, b2_0, b2_1, decide_eq_true_eq, decide_eq_false_iff_not, Bool.not_eq_true, Bool.not_eq_false, et, e1] at z1 z2; exact ⟨by omega, by omega⟩)
            have hq1 : q + 1 < M := lx_i_in (t := t) (M := M) (p := q + 1) (by rw [hT2.2]; decide)
            have hk : lx_tok t M q (lx_at t M lx_ns j).2 = (lx_tim t M q, (lx_at t M lx_ns j).2) := by unfold lx_tok; rw [if_neg (by omega)]; exact if_pos hT2
            have hkk : (lx_tim t M q).1 ≠ 45 → (lx_tim t M q).1 = 42 := fun z => by obtain ⟨v, e, g1, _⟩ := lx_tim_e hq1 z; rw [g1]
            have hz := rq_one (Q := Q) hF3 h03 hN3 (by rw [hok, hk]) (fun z => by have := hkk z; omega) (fun z z2 => absurd (hkk z) z2) hQ
            refine wq_l 66 d203_65 rfl rfl rfl rfl ?_
            refine wq_v 69 [] d203_66 rfl rfl m207 rfl rfl (Nat.le_of_ble_eq_true rfl) rfl (sp207 hT3 h03 hq1 ⟨fun z e' => ?_, fun z => ?_⟩)
            · exact wq_g 118 d203_69 (by decide) (wq_rv d203_118 (hz.1 z e'))
            · exact wq_g 118 d203_69 (by decide) (wq_rv d203_118 (hz.2 z))
    · -- pc 35
      have hqM : M ≤ q := by
        rcases Nat.lt_or_ge q M with z | z
        · exfalso; rw [show lx_c t M q = nI (t q) from if_pos z] at c32; have tq := ht q; have et := nI_toInt (n := t q) (by omega); simp only [i_lt, i_le, i_eq, ne_eq, Int32.reduceToInt, b2_0, b2_1, decide_eq_true_eq, decide_eq_false_iff_not, Bool.not_eq_true, Bool.not_eq_false, et] at c32; omega
        · exact z
      have hk : lx_tok t M q (lx_at t M lx_ns j).2 = ((44, 0, q), (lx_at t M lx_ns j).2) := if_pos hqM
      have hz := rq_one (Q := Q) (r := (44, 0, q)) hF3 h03 hN3 (by rw [hok, hk]) (fun _ => (by decide : (41 : Nat) < 44)) (fun _ _ _ => rfl) hQ
      have hz := hz.2 (by decide : (44 : Nat) ≠ 45)
      have hz : Q none (pm_pi (pm_pi (rs σ3 q) 10 3 0) 10 5 0) := hz
      rw [pm_same (show (pm_pi (rs σ3 q) 10 3 0).1 10 5 = 0 from h03.2.2)] at hz
      refine wq_l 36 d203_35 rfl rfl rfl rfl ?_
      refine wq_k 37 0 d203_36 (by decide) rfl ?_
      refine wq_pf (ci := 10) (j := 3) 40 d203_37 rfl rfl rfl ⟨rfl, rfl⟩ rfl ?_
      refine wq_g 118 d203_40 (by decide) ?_
      refine wq_rv d203_118 ?_
      exact hz
  · rw [hsk] at hn ⊢
    have hno := hno hn
    have hz := rq_one (Q := Q) (r := (45, 2, q)) (σ := pm_pi (pm_pi (rs σ q) 10 4 (nI q)) 10 5 0) hF3 h03 hN3 (by rw [hno]) (fun z => absurd rfl z) (fun z => absurd rfl z) hQ
    have hk : lx_k t M lx_ns j = 45 := by unfold lx_k; rw [hno]
    have hp : lx_p t M lx_ns j = q := by unfold lx_p; rw [hno]
    have hv : lx_v t M lx_ns j = 2 := by unfold lx_v; rw [hno]
    refine wq_l 5 d203_4 rfl rfl rfl rfl ?_
    refine wq_gi (ci := 10) (j := 6) 8 d203_5 rfl rfl rfl rfl ?_
    refine wq_b 12 11 d203_8 rfl (by decide) rfl (fun z => absurd z (by show ¬ (2 : Int32) ≤ 0; decide)) (fun _ => ?_)
    exact wq_rv d203_11 (hQ _ (rq_Fp (rq_Fp (rq_Fp rq_Fr (by decide)) (by decide)) (by decide)) ⟨fun _ => ⟨by rw [hv]; rfl, by rw [hp]; rfl⟩, fun z => absurd hk z⟩)
