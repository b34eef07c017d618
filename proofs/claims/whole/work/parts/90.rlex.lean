/-! WORD, whole -/
theorem rx_N_pi {σ : pm_S} {t : Nat → Nat} {M j : Nat} {x : Int32} {ps : List (Nat × Nat)} (hj : j ≠ 9) (h : rx_N σ t M ps) : rx_N (pm_pi σ 10 j x) t M ps := by
  obtain ⟨h1, h2⟩ := h
  refine ⟨?_, h2⟩
  show (if (10 : Nat) = 10 then (if 9 = j then x else σ.1 10 9) else σ.1 10 9) = _
  rw [if_pos rfl, if_neg (fun z => hj z.symm)]
  exact h1
theorem sp215 {d : Nat} {σ : pm_S} {Q : Option Value → pm_S → Prop} {t : Nat → Nat} {M : Nat} {p : Nat} {ps : List (Nat × Nat)} (hT : rx_T σ t M) (h6 : σ.1 10 6 = 0) (hp : p < M) (hnp : lx_np (t p) = true) (hN : rx_N σ t M ps)
    (hL : 32 < lx_ne t M p - p → Q none (pm_pi (pm_pi (rs σ (lx_ne t M p)) 10 6 3) 10 7 (nI p)))
    (hW : ¬ 32 < lx_ne t M p - p → ∀ w, w < 41 → nt_w t p (lx_ne t M p) = rx_W w → Q none (pm_pi (rs σ (lx_ne t M p)) 10 3 (nI (100 + w))))
    (h1 : ¬ 32 < lx_ne t M p - p → (∀ w, w < 41 → ¬ nt_w t p (lx_ne t M p) = rx_W w) → ∀ (i : Nat) (q : Nat × Nat), ps[i]? = some q → rx_wd t q = nt_w t p (lx_ne t M p) → Q none (pm_pi (pm_pi (rs σ (lx_ne t M p)) 10 3 1) 10 5 (nI i)))
    (h2 : ¬ 32 < lx_ne t M p - p → (∀ w, w < 41 → ¬ nt_w t p (lx_ne t M p) = rx_W w) → (∀ q ∈ ps, ¬ rx_wd t q = nt_w t p (lx_ne t M p)) → ps.length < 4200 ∧ ∀ σ', rx_N σ' t M (ps ++ [(p, lx_ne t M p - p)]) → rx_Fr (pm_pi (rs σ (lx_ne t M p)) 10 3 1) σ' → Q none (pm_pi σ' 10 5 (nI ps.length))) : pm_call pm_Y0 (d + 4) 215 [.ref 10] (rs σ p) Q := by
  have hM := hT.2.1
  have ht := hT.2.2.2
  have b := lx_neB (t := t) (M := M) (p := p)
  have hne := b.2 (by omega)
  have hlt : p < lx_ne t M p := by rw [lx_ne_u, if_pos ⟨hp, hnp⟩]; exact lx_neB.1
  have hW1 := nt_w_1 (t := t) (M := M) (p := p) ht
  generalize hE : lx_ne t M p = e at *
  have hlen : (nt_w t p e).length = e - p := nt_w_len
  have en := nI_toInt (n := e - p) (by omega)
  have h6s : (rs σ e).1 10 6 = 0 := h6
  have hwd : rx_wd t (p, e - p) = nt_w t p e := by unfold rx_wd; rw [show p + (e - p) = e by omega]
  have hNs : rx_N (pm_pi (rs σ e) 10 3 1) t M ps := rx_N_pi (by decide) (rx_N_pi (by decide) hN)
  have hTs : rx_T (pm_pi (rs σ e) 10 3 1) t M := hT
  have K83 : ¬ 32 < e - p → ∀ x8, pm_WP pm_Y0 (pm_call pm_Y0 (d + 3)) 10 prog_14_method_26_code none Q 86 [.ref 10, .int (nI p), .int (nI (e - p)), .long (lN (rx_c1 (nt_w t p e))), pm_jk, .long (lN (rx_c2 (nt_w t p e))), pm_jk, .int 0, x8] [] (rs σ e) := by
    intro h32 x8
    refine rx_w86 hT hlt hne hW1 (fun w hw he => hW h32 w hw he) (fun hno x7 x8 => ?_) 41 0 _ rfl (fun k hk => absurd hk (by omega))
    have hcd : ∀ z : Int64, z = (if 8 < e - p then 0 else lN (rx_c1 (nt_w t p e))) → z = rx_cd (rx_wd t (p, e - p)) := fun z hz => by
      rw [hz, hwd]; unfold rx_cd; rw [hlen]
    have h1' := h1 h32 hno
    have h2' := h2 h32 hno
    refine wq_l 203 d215_202 rfl rfl rfl rfl ?_
    refine wq_k 204 1 d215_203 (by decide) rfl ?_
    refine wq_pf (ci := 10) (j := 3) 207 d215_204 rfl rfl rfl ⟨rfl, rfl⟩ rfl ?_
    refine wq_l 208 d215_207 rfl rfl rfl rfl ?_
    refine wq_l 209 d215_208 rfl rfl rfl rfl ?_
    refine wq_l 210 d215_209 rfl rfl rfl rfl ?_
    refine wq_l 211 d215_210 rfl rfl rfl rfl ?_
    refine wq_l 212 d215_211 rfl rfl rfl rfl ?_
    refine wq_k 214 8 d215_212 (by decide) rfl ?_
    refine wq_b 221 217 d215_214 rfl (by decide) rfl (fun c214 => ?_) (fun c214 => ?_)
    · -- pc 221
      refine wq_l 222 d215_221 rfl rfl rfl rfl ?_
      first
        | (have h8 : 8 < e - p := by have z := c214; simp only [i_lt, i_le, i_eq, ne_eq, Int32.reduceToInt, b2_0, b2_1, decide_eq_true_eq, decide_eq_false_iff_not, Bool.not_eq_true, Bool.not_eq_false, en] at z; omega
           have hz : Int64.ofNat ((0 : Fin 2) : Nat) = rx_cd (rx_wd t (p, e - p)) := hcd _ (if_pos h8).symm
           rw [hz]
           refine wq_v 225 [_, _, _] d215_222 rfl rfl m220 rfl rfl (Nat.le_of_ble_eq_true rfl) rfl (sp220 hTs (by omega) hNs (fun i q hq he => ?_) (fun hno2 => ?_))
           · refine wq_pf (ci := 10) (j := 5) 228 d215_225 rfl rfl rfl ⟨rfl, rfl⟩ rfl ?_
             exact wq_rv d215_228 (h1' i q hq (by rw [he, hwd]))
           · obtain ⟨g1, g2⟩ := h2' (fun q hq => by have := hno2 q hq; rw [hwd] at this; exact this)
             refine ⟨g1, fun σ' hs hf => ?_⟩
             refine wq_pf (ci := 10) (j := 5) 228 d215_225 rfl rfl rfl ⟨rfl, rfl⟩ rfl ?_
             exact wq_rv d215_228 (g2 σ' hs hf))
        | (have h8 : ¬ 8 < e - p := by have z := c214; simp only [i_lt, i_le, i_eq, ne_eq, Int32.reduceToInt, b2_0, b2_1, decide_eq_true_eq, decide_eq_false_iff_not, Bool.not_eq_true, Bool.not_eq_false, en] at z; omega
           have hz : lN (rx_c1 (nt_w t p e)) = rx_cd (rx_wd t (p, e - p)) := hcd _ (if_neg h8).symm
           rw [hz]
           refine wq_v 225 [_, _, _] d215_222 rfl rfl m220 rfl rfl (Nat.le_of_ble_eq_true rfl) rfl (sp220 hTs (by omega) hNs (fun i q hq he => ?_) (fun hno2 => ?_))
           · refine wq_pf (ci := 10) (j := 5) 228 d215_225 rfl rfl rfl ⟨rfl, rfl⟩ rfl ?_
             exact wq_rv d215_228 (h1' i q hq (by rw [he, hwd]))
           · obtain ⟨g1, g2⟩ := h2' (fun q hq => by have := hno2 q hq; rw [hwd] at this; exact this)
             refine ⟨g1, fun σ' hs hf => ?_⟩
             refine wq_pf (ci := 10) (j := 5) 228 d215_225 rfl rfl rfl ⟨rfl, rfl⟩ rfl ?_
             exact wq_rv d215_228 (g2 σ' hs hf))
    · -- pc 217
      refine wq_a 218 d215_217 rfl rfl ?_
      refine wq_g 222 d215_218 (by decide) ?_
      first
        | (have h8 : 8 < e - p := by have z := c214; simp only [i_lt, i_le, i_eq, ne_eq, Int32.reduceToInt, b2_0, b2_1, decide_eq_true_eq, decide_eq_false_iff_not, Bool.not_eq_true, Bool.not_eq_false, en] at z; omega
           have hz : Int64.ofNat ((0 : Fin 2) : Nat) = rx_cd (rx_wd t (p, e - p)) := hcd _ (if_pos h8).symm
           rw [hz]
           refine wq_v 225 [_, _, _] d215_222 rfl rfl m220 rfl rfl (Nat.le_of_ble_eq_true rfl) rfl (sp220 hTs (by omega) hNs (fun i q hq he => ?_) (fun hno2 => ?_))
           · refine wq_pf (ci := 10) (j := 5) 228 d215_225 rfl rfl rfl ⟨rfl, rfl⟩ rfl ?_
             exact wq_rv d215_228 (h1' i q hq (by rw [he, hwd]))
           · obtain ⟨g1, g2⟩ := h2' (fun q hq => by have := hno2 q hq; rw [hwd] at this; exact this)
             refine ⟨g1, fun σ' hs hf => ?_⟩
             refine wq_pf (ci := 10) (j := 5) 228 d215_225 rfl rfl rfl ⟨rfl, rfl⟩ rfl ?_
             exact wq_rv d215_228 (g2 σ' hs hf))
        | (have h8 : ¬ 8 < e - p := by have z := c214; simp only [i_lt, i_le, i_eq, ne_eq, Int32.reduceToInt, b2_0, b2_1, decide_eq_true_eq, decide_eq_false_iff_not, Bool.not_eq_true, Bool.not_eq_false, en] at z; omega
           have hz : lN (rx_c1 (nt_w t p e)) = rx_cd (rx_wd t (p, e - p)) := hcd _ (if_neg h8).symm
           rw [hz]
           refine wq_v 225 [_, _, _] d215_222 rfl rfl m220 rfl rfl (Nat.le_of_ble_eq_true rfl) rfl (sp220 hTs (by omega) hNs (fun i q hq he => ?_) (fun hno2 => ?_))
           · refine wq_pf (ci := 10) (j := 5) 228 d215_225 rfl rfl rfl ⟨rfl, rfl⟩ rfl ?_
             exact wq_rv d215_228 (h1' i q hq (by rw [he, hwd]))
           · obtain ⟨g1, g2⟩ := h2' (fun q hq => by have := hno2 q hq; rw [hwd] at this; exact this)
             refine ⟨g1, fun σ' hs hf => ?_⟩
             refine wq_pf (ci := 10) (j := 5) 228 d215_225 rfl rfl rfl ⟨rfl, rfl⟩ rfl ?_
             exact wq_rv d215_228 (g2 σ' hs hf))
  have hc2 : ∀ z : Int64, z = (if 8 < e - p then lN (rx_c1 (nt_w t (p + 8) e)) else 0) → z = lN (rx_c2 (nt_w t p e)) := fun z hz => by
    rw [hz]
    have e2 : rx_c2 (nt_w t p e) = rx_c1 (nt_w t (p + 8) e) := by unfold rx_c2 rx_c1; rw [nt_w_drop]
    by_cases q : 8 < e - p
    · rw [if_pos q, e2]
    · rw [if_neg q, e2]
      have : nt_w t (p + 8) e = [] := List.eq_nil_of_length_eq_zero (by rw [nt_w_len]; omega)
      rw [this]
      rfl
  refine wq_m m215 (Nat.le_of_ble_eq_true rfl) (by decide) rfl ?_
  refine wq_l 1 d215_0 rfl rfl rfl rfl ?_
  refine wq_gi (ci := 10) (j := 2) 4 d215_1 rfl rfl rfl rfl ?_
  rw [rs_2]
  refine wq_s 5 d215_4 rfl rfl (Nat.le_of_ble_eq_true rfl) rfl rfl ?_
  refine rx_w5 hT _ p rfl (by omega) ?_
  rw [hE]
  refine wq_l 30 d215_29 rfl rfl rfl rfl ?_
  refine wq_gi (ci := 10) (j := 2) 33 d215_30 rfl rfl rfl rfl ?_
  rw [rs_2]
  refine wq_l 34 d215_33 rfl rfl rfl rfl ?_
  refine wq_a 35 d215_34 rfl rfl ?_
  rw [pk_sub (by omega)]
  refine wq_s 36 d215_35 rfl rfl (Nat.le_of_ble_eq_true rfl) rfl rfl ?_
  refine wq_l 37 d215_36 rfl rfl rfl rfl ?_
  refine wq_k 39 32 d215_37 (by decide) rfl ?_
  refine wq_b 49 42 d215_39 rfl (by decide) rfl (fun c39 => ?_) (fun c39 => ?_)
  · -- pc 49
    have h32 : ¬ 32 < e - p := by have z := c39; simp only [i_lt, i_le, i_eq, ne_eq, Int32.reduceToInt, b2_0, b2_1, decide_eq_true_eq, decide_eq_false_iff_not, Bool.not_eq_true, Bool.not_eq_false, en] at z; omega
    refine wq_l 50 d215_49 rfl rfl rfl rfl ?_
    refine wq_l 51 d215_50 rfl rfl rfl rfl ?_
    refine wq_l 52 d215_51 rfl rfl rfl rfl ?_
    refine wq_gi (ci := 10) (j := 2) 55 d215_52 rfl rfl rfl rfl ?_
    rw [rs_2]
    refine wq_v 58 [_, _] d215_55 rfl rfl m216 rfl rfl (Nat.le_of_ble_eq_true rfl) rfl (sp216 hT hne (by omega) ?_)
    refine wq_s 59 d215_58 rfl rfl (Nat.le_of_ble_eq_true rfl) rfl rfl ?_
    refine wq_l 60 d215_59 rfl rfl rfl rfl ?_
    refine wq_k 62 8 d215_60 (by decide) rfl ?_
    refine wq_b 80 65 d215_62 rfl (by decide) rfl (fun c62 => ?_) (fun c62 => ?_)
    · -- pc 80
      refine wq_a 81 d215_80 rfl rfl ?_
      refine wq_s 83 d215_81 rfl rfl (Nat.le_of_ble_eq_true rfl) rfl rfl ?_
      refine wq_k 84 0 d215_83 (by decide) rfl ?_
      refine wq_s 86 d215_84 rfl rfl (Nat.le_of_ble_eq_true rfl) rfl rfl ?_
      first
        | (have hz : lN (rx_c1 (nt_w t (p + 8) e)) = lN (rx_c2 (nt_w t p e)) := hc2 _ (if_pos h8).symm
           rw [hz]
           exact K83 h32 _)
        | (have h8 : ¬ 8 < e - p := by have z := c62; simp only [i_lt, i_le, i_eq, ne_eq, Int32.reduceToInt, b2_0, b2_1, decide_eq_true_eq, decide_eq_false_iff_not, Bool.not_eq_true, Bool.not_eq_false, en] at z; omega
           have hz : Int64.ofNat ((0 : Fin 2) : Nat) = lN (rx_c2 (nt_w t p e)) := hc2 _ (if_neg h8).symm
           rw [hz]
           exact K83 h32 _)
    · -- pc 65
      have h8 : 8 < e - p := by have z := c62; simp only [i_lt, i_le, i_eq, ne_eq, Int32.reduceToInt, b2_0, b2_1, decide_eq_true_eq, decide_eq_false_iff_not, Bool.not_eq_true, Bool.not_eq_false, en] at z; omega
      refine wq_l 66 d215_65 rfl rfl rfl rfl ?_
      refine wq_l 67 d215_66 rfl rfl rfl rfl ?_
      refine wq_k 69 8 d215_67 (by decide) rfl ?_
      refine wq_a 70 d215_69 rfl rfl ?_
      rw [show nI p + 8 = nI (p + 8) from nI_add p 8]
      refine wq_l 71 d215_70 rfl rfl rfl rfl ?_
      refine wq_gi (ci := 10) (j := 2) 74 d215_71 rfl rfl rfl rfl ?_
      rw [rs_2]
      refine wq_v 77 [_, _] d215_74 rfl rfl m216 rfl rfl (Nat.le_of_ble_eq_true rfl) rfl (sp216 hT hne (by omega) ?_)
      refine wq_g 81 d215_77 (by decide) ?_
      refine wq_s 83 d215_81 rfl rfl (Nat.le_of_ble_eq_true rfl) rfl rfl ?_
      refine wq_k 84 0 d215_83 (by decide) rfl ?_
      refine wq_s 86 d215_84 rfl rfl (Nat.le_of_ble_eq_true rfl) rfl rfl ?_
      first
        | (have hz : lN (rx_c1 (nt_w t (p + 8) e)) = lN (rx_c2 (nt_w t p e)) := hc2 _ (if_pos h8).symm
           rw [hz]
           exact K83 h32 _)
        | (have h8 : ¬ 8 < e - p := by have z := c62; simp only [i_lt, i_le, i_eq, ne_eq, Int32.reduceToInt, b2_0, b2_1, decide_eq_true_eq, decide_eq_false_iff_not, Bool.not_eq_true, Bool.not_eq_false, en] at z; omega
           have hz : Int64.ofNat ((0 : Fin 2) : Nat) = lN (rx_c2 (nt_w t p e)) := hc2 _ (if_neg h8).symm
           rw [hz]
           exact K83 h32 _)
  · -- pc 42
    refine wq_l 43 d215_42 rfl rfl rfl rfl ?_
    refine wq_k 44 3 d215_43 (by decide) rfl ?_
    refine wq_l 45 d215_44 rfl rfl rfl rfl ?_
    refine wq_v 48 [_, _] d215_45 rfl rfl m206 rfl rfl (Nat.le_of_ble_eq_true rfl) rfl (sp206 h6s ?_)
    refine wq_rv d215_48 ?_
    exact hL (by have z := c39; simp only [i_lt, i_le, i_eq, ne_eq, Int32.reduceToInt, b2_0, b2_1, decide_eq_true_eq, decide_eq_false_iff_not, Bool.not_eq_true, Bool.not_eq_false, en] at z; omega)
