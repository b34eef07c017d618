/-! A DECLARATION SETTLES its variables: the loop -/
theorem sp133r {d : Nat} {σ : pm_S} {Q : Option Value → pm_S → Prop} {i n : Nat} (hc : σ.1 6 8 = nI n) (hn : n ≤ 4128) (hi : i < n) (hQ : Q none (pm_pr σ 41 (upd (σ.2.2 41) i 1))) : pm_call pm_Y0 (d + 1) 133 [.ref 6, .int (nI i)] σ Q := by
  have e1 := nI_clamp (n := i) (by omega)
  have ei := nI_toInt (n := i) (by omega)
  have en := nI_toInt (n := n) (by omega)
  refine wq_m m133 (Nat.le_of_ble_eq_true rfl) (by decide) rfl ?_
  refine wq_l 1 d133_0 rfl rfl rfl rfl ?_
  refine wq_b 19 4 d133_1 rfl (by decide) rfl (fun c1 => absurd c1 (by rw [i_lt, ei]; show ¬ (i : Int) < 0; omega)) (fun c1 => ?_)
  refine wq_l 5 d133_4 rfl rfl rfl rfl ?_
  refine wq_l 6 d133_5 rfl rfl rfl rfl ?_
  refine wq_gf (ci := 6) (j := 8) (f := 0) (v := .int (nI n)) 9 d133_6 rfl rfl rfl (congrArg Value.int (hc)) rfl ?_
  refine wq_b 19 12 d133_9 rfl (by decide) rfl (fun c9 => absurd c9 (by rw [i_le, ei, en]; omega)) (fun c9 => ?_)
  refine wq_l 13 d133_12 rfl rfl rfl rfl ?_
  refine wq_gr (ci := 6) (j := 7) (q := 41) 16 d133_13 rfl rfl rfl rfl ?_
  refine wq_l 17 d133_16 rfl rfl rfl rfl ?_
  refine wq_k 18 1 d133_17 (by decide) rfl ?_
  refine wq_as 19 d133_18 rfl rfl rfl (vp_in_iff.mpr (by rw [ei]; omega)) ?_
  rw [e1]
  refine wq_rv d133_19 ?_
  exact hQ
theorem cr153l {d : Nat} {l : List pg_N} {NN nx : Nat} {σ0 : pm_S} {Q : Option Value → pm_S → Prop} {p y s m i z part fi : Nat} {t at_ pc : Int32} {yb : rl_B} {r : List rl_B} {T : (Nat → Int32) × (Nat → Int32) × (Nat → Int32)} (hG : lg_G l NN) (hm : m ≤ yb.2.2.2.2.length) (hfi : fi + m = (cv_L r).length + yb.2.2.2.2.length) (hu : ∀ (k : Nat) (v : rl_V), k < m → yb.2.2.2.2[k]? = some v → v.2.1 = 3 ∧ v.2.2.2.2.1 = at_) (hus : ∀ (k : Nat) (v : rl_V), k < m → yb.2.2.2.2[k]? = some v → v.2.2.2.1 = part) (hs : s ≤ 2) (hpl : (at_ = -1 ∧ pc = -1) ∨ (pc = nI p ∧ p < l.length ∧ rl_k l p = 7 ∧ rl_v l p = at_ ∧ at_ ≠ -1)) (hy : y < l.length) (hk : rl_k l y = 8 ∨ rl_k l y = 9 ∨ rl_k l y = 10) (h9 : rl_k l y = 9 → y + 3 < l.length ∧ 1 ≤ rl_many l y ∧ rl_many l y ≤ 256) (h10 : rl_k l y = 10 → (rl_inst (yb :: r) (rl_v l y)).isSome = true) (hx : rl_k l y = 10 → 0 ≤ (rl_v l y).toInt ∧ (rl_v l y).toInt < NN) (hz : rl_zz l (yb :: r) y = z) (hf : cb_nm r yb.2.1 = none) (hkd : ∀ q, cb_kd (yb :: r) q < 2 ^ 30) (hnode : i + m < l.length) : ∀ (n j : Nat) (σ : pm_S) (w10 : Value), j + n = m → cr_I l NN σ0 σ nx (rl_Aj s t at_ z m i j yb r T) → (∀ σ', cr_I l NN σ0 σ' nx (rl_Aj s t at_ z m i m yb r T) → Q none σ') → pm_WP pm_Y0 (pm_call pm_Y0 (d + 3)) 7 prog_7_method_22_code none Q 75 [.ref 7, .int (nI i), .int (nI m), .int pc, .int (nI y), .int (nI (8 + s)), .int t, .int (b2 (decide (part = 1))), .int (nI fi), .int (nI j), w10] [] σ := by
  intro n
  induction n with
  | zero =>
    intro j σ w10 hj h hQ
    have : j = m := by omega
    subst this
    refine wq_l 77 d153_75 rfl rfl rfl rfl ?_
    refine wq_l 78 d153_77 rfl rfl rfl rfl ?_
    refine wq_b 182 81 d153_78 rfl (by decide) rfl (fun c78 => ?_) (fun c78 => absurd (by rw [i_le]; omega) c78)
    refine wq_rv d153_182 ?_
    exact hQ _ h
  | succ n ih =>
    intro j σ w10 hj h hQ
    have hl := h.2.1.1
    have ej := nI_toInt (n := j) (by omega)
    have em := nI_toInt (n := m) (by omega)
    obtain ⟨v, v1, v2, v3⟩ := rl_sjs (s := s) (t := t) (at_ := at_) (f := yb.2.2.2.1) (z := z) (show j < m by omega) hm
    have u1 := (hu _ v (by omega) v1).1
    have u3 := hus _ v (by omega) v1
    have hcv := h.2.2.2.2.2.1
    have lF : (cv_L (rl_yj s t at_ z m j yb :: r)).length = (cv_L r).length + yb.2.2.2.2.length := by
      show (cv_L r ++ (rl_sj s t at_ yb.2.2.2.1 z m j yb.2.2.2.2).reverse.map _).length = _
      rw [List.length_append, List.length_map, List.length_reverse]
      unfold rl_sj
      rw [List.length_append, rl_sel, List.length_take, List.length_drop]
      omega
    have hF := hcv.1
    have hFc := hcv.2.1
    have hF : (cv_L (rl_yj s t at_ z m j yb :: r)).length ≤ 4128 := hF
    have hFc : σ.1 6 8 = nI (cv_L (rl_yj s t at_ z m j yb :: r)).length := hFc
    rw [lF] at hF hFc
    have hidx : fi + j = (cv_L r).length + (yb.2.2.2.2.length - (m - j)) := by omega
    have ua : ∀ w ∈ yb.2.2.2.2.take (m - j - 1), w.2.1 = 3 := fun w hw => by
      obtain ⟨k, hk⟩ := List.getElem?_of_mem hw
      rw [List.getElem?_take] at hk
      by_cases q : k < m - j - 1
      · rw [if_pos q] at hk; exact (hu k w (by omega) hk).1
      · rw [if_neg q] at hk; cases hk
    have i0 : rl_ins (rl_yj s t at_ z m j yb) = (((rl_settle s t at_ yb.2.2.2.1 z j (yb.2.2.2.2.drop (m - j))).filter rl_isin).map (fun v => v.2.2.1)).reverse := by
      rw [rl_insa (y := rl_yj s t at_ z m j yb) v2 ua, List.filter_cons_of_neg]
      unfold rl_isin
      rw [u1]
      simp
    have i1 : rl_ins (rl_yj s t at_ z m (j + 1) yb) = ((((v.1, s, t, v.2.2.2.1, at_, if at_ = -1 then yb.2.2.2.1 + j * z else rl_img at_) :: rl_settle s t at_ yb.2.2.2.1 z j (yb.2.2.2.2.drop (m - j))).filter rl_isin).map (fun v => v.2.2.1)).reverse := rl_insa (y := rl_yj s t at_ z m (j + 1) yb) v3 ua
    have iy : part = 1 → rl_ins (rl_yj s t at_ z m (j + 1) yb) = rl_ins (rl_yj s t at_ z m j yb) ++ [t] := fun q => by
      rw [i1, i0, List.filter_cons_of_pos, List.map_cons, List.reverse_cons]
      exact decide_eq_true ⟨u3.trans q, by show s ≠ 3; omega⟩
    have in_ : ¬ part = 1 → rl_ins (rl_yj s t at_ z m (j + 1) yb) = rl_ins (rl_yj s t at_ z m j yb) := fun q => by
      rw [i1, i0, List.filter_cons_of_neg]
      unfold rl_isin
      intro w
      exact q (u3.symm.trans (of_decide_eq_true w).1)
    have nl : rl_nin (rl_yj s t at_ z m j yb) < 2 ^ 20 := by
      unfold rl_nin
      have := List.length_filter_le rl_isin (rl_yj s t at_ z m j yb).2.2.2.2
      have e : (rl_yj s t at_ z m j yb).2.2.2.2.length = yb.2.2.2.2.length := by
        show (rl_sj s t at_ yb.2.2.2.1 z m j yb.2.2.2.2).length = _
        unfold rl_sj
        rw [List.length_append, rl_sel, List.length_take, List.length_drop]
        omega
      omega
    rcases hpl with ⟨hat, hpc⟩ | ⟨hpc, hp1, hp2, hp3, hp4⟩
    · subst hpc
      have ec0 : nI (rl_yj s t at_ z m j yb).2.2.2.1 = nI (if at_ = -1 then yb.2.2.2.1 + j * z else rl_img at_) := by
        show nI (if at_ = -1 then _ else _) = _
        rw [if_pos hat, if_pos hat]
      have ny : (if at_ = -1 then yb.2.2.2.1 + j * z else yb.2.2.2.1) + z = (if at_ = -1 then yb.2.2.2.1 + (j + 1) * z else yb.2.2.2.1) := by
        rw [if_pos hat, if_pos hat, Nat.succ_mul]; omega
      refine wq_l 77 d153_75 rfl rfl rfl rfl ?_
      refine wq_l 78 d153_77 rfl rfl rfl rfl ?_
      refine wq_b 182 81 d153_78 rfl (by decide) rfl (fun c78 => absurd c78 (by rw [i_le, ej, em]; omega)) (fun c78 => ?_)
      refine wq_l 82 d153_81 rfl rfl rfl rfl ?_
      refine wq_k 83 (-1) d153_82 (by decide) rfl ?_
      refine wq_b 94 86 d153_83 rfl (by decide) rfl (fun c83 => ?_) (fun c83 => absurd (rfl) c83)
      refine wq_l 95 d153_94 rfl rfl rfl rfl ?_
      refine wq_gr (ci := 7) (j := 2) (q := 5) 98 d153_95 rfl rfl rfl rfl ?_
      refine wq_l 99 d153_98 rfl rfl rfl rfl ?_
      refine wq_l 101 d153_99 rfl rfl rfl rfl ?_
      refine wq_v 104 [_] d153_101 rfl rfl m156 rfl rfl (Nat.le_of_ble_eq_true rfl) rfl (cr156 hG h hf (fun q => by show cb_kd (rl_yj s t at_ z m j yb :: r) q < _; rw [cb_kdh (y := yb) (y' := rl_yj s t at_ z m j yb) (r := r) rfl]; exact hkd q) (by intro w; cases w) hy hk h9 h10 hx ?_)
      rw [show rl_zz l (rl_Aj s t at_ z m i j yb r T).1 y = z from (rl_zzh (y := yb)).trans hz]
      refine wq_v 107 [_] d153_104 rfl rfl m113 rfl rfl (Nat.le_of_ble_eq_true rfl) rfl (cb113 h.2.2.2.2.1 (fun σ104 hb104 u104 => ?_))
      rw [ec0]
      refine wq_s 109 d153_107 rfl rfl (Nat.le_of_ble_eq_true rfl) rfl rfl ?_
      refine wq_l 110 d153_109 rfl rfl rfl rfl ?_
      refine wq_gr (ci := 7) (j := 3) (q := 6) 113 d153_110 rfl rfl rfl rfl ?_
      refine wq_l 115 d153_113 rfl rfl rfl rfl ?_
      refine wq_l 117 d153_115 rfl rfl rfl rfl ?_
      refine wq_a 118 d153_117 rfl rfl ?_
      rw [nI_add]
      refine wq_l 120 d153_118 rfl rfl rfl rfl ?_
      refine wq_l 122 d153_120 rfl rfl rfl rfl ?_
      refine wq_l 124 d153_122 rfl rfl rfl rfl ?_
      refine wq_v 127 [_, _, _, _] d153_124 rfl rfl m131 rfl rfl (Nat.le_of_ble_eq_true rfl) rfl (sp131 (i := fi + j) (by omega) ?_)
      have f124 := cc_pr (f := upd (σ104.2.2 40) (fi + j) (nI (if at_ = -1 then yb.2.2.2.1 + j * z else rl_img at_))) (k := 40) (cc_pr (f := upd (σ104.2.2 39) (fi + j) t) (k := 39) (cc_pr (f := upd (σ104.2.2 38) (fi + j) (nI (8 + s))) (k := 38) (cb_Uc h.2.2.1 u104) (by decide)) (by decide)) (by decide)
      refine wq_l 128 d153_127 rfl rfl rfl rfl ?_
      refine wq_gr (ci := 7) (j := 0) (q := 3) 131 d153_128 rfl rfl rfl rfl ?_
      refine wq_l 132 d153_131 rfl rfl rfl rfl ?_
      refine wq_k 133 1 d153_132 (by decide) rfl ?_
      refine wq_a 134 d153_133 rfl rfl ?_
      rw [nI_1]
      refine wq_l 136 d153_134 rfl rfl rfl rfl ?_
      refine wq_a 137 d153_136 rfl rfl ?_
      rw [nI_add]
      refine wq_l 139 d153_137 rfl rfl rfl rfl ?_
      refine wq_v 142 [_, _] d153_139 rfl rfl m67 rfl rfl (Nat.le_of_ble_eq_true rfl) rfl (sp67 (i := i + 1 + j) (ct_Zf h.2.1 f124) (by omega) ?_)
      have f139 := cc_pr (f := upd (σ104.2.2 25) (i + 1 + j) (nI (if at_ = -1 then yb.2.2.2.1 + j * z else rl_img at_))) (k := 25) f124 (by decide)
      refine wq_l 143 d153_142 rfl rfl rfl rfl ?_
      refine wq_l 144 d153_143 rfl rfl rfl rfl ?_
      refine wq_v 147 [_] d153_144 rfl rfl m150 rfl rfl (Nat.le_of_ble_eq_true rfl) rfl (ck150n (ct_Zf h.2.1 f139) ?_)
      refine wq_b 162 150 d153_147 rfl (by decide) rfl (fun c147 => ?_) (fun c147 => absurd (rfl) c147)
      refine wq_l 164 d153_162 rfl rfl rfl rfl ?_
      refine wq_b 176 167 d153_164 rfl (by decide) rfl (fun c164 => ?_) (fun c164 => ?_)
      · -- pc 176
        have f164 : ¬ part = 1 := of_decide_eq_false (b2z c164)
        refine wq_i 179 d153_176 rfl rfl rfl ?_
        refine wq_g 75 d153_179 (by decide) ?_
        have hn : cr_I l NN σ0 _ nx (rl_Aj s t at_ z m i (j + 1) yb r T) := cr_sjn (inp := False) (idx := fi + j) h (by omega) hm hu hs (⟨fun z => z.elim, fun z => z.1 hat⟩) hidx (f139) (((u104.2.2 23).resolve_left (by omega))) (((u104.2.2 24).resolve_left (by omega))) (((u104.2.2 26).resolve_left (by omega))) (congrArg (fun f => upd f (i + 1 + j) (nI (if at_ = -1 then yb.2.2.2.1 + j * z else rl_img at_))) ((u104.2.2 25).resolve_left (by omega))) (((u104.2.2 34).resolve_left (by omega))) (((u104.2.2 35).resolve_left (by omega))) (((u104.2.2 36).resolve_left (by omega))) (((u104.2.2 37).resolve_left (by omega))) (congrArg (fun f => upd f (fi + j) (nI (8 + s))) ((u104.2.2 38).resolve_left (by omega))) (congrArg (fun f => upd f (fi + j) (t)) ((u104.2.2 39).resolve_left (by omega))) (congrArg (fun f => upd f (fi + j) (nI (if at_ = -1 then yb.2.2.2.1 + j * z else rl_img at_))) ((u104.2.2 40).resolve_left (by omega))) (fun z => z.elim) (fun _ => ((u104.2.2 41).resolve_left (by omega))) (((u104.2.2 42).resolve_left (by omega))) (((u104.1 6 8).resolve_left (by omega))) (cb_vs (y' := rl_yj s t at_ z m (j + 1) yb) (cb_x hb104 (fun q _ _ => by repeat rw [pm_rne (by omega)]) rfl rfl) rfl rfl rfl ny.symm (in_ f164))
        rw [show nI j + Int32.ofInt 1 = nI (j + 1) from nI_1 j]
        exact ih (j + 1) _ _ (by omega) hn hQ
      · -- pc 167
        have f164 : part = 1 := of_decide_eq_true (b2n c164)
        refine wq_l 168 d153_167 rfl rfl rfl rfl ?_
        refine wq_gr (ci := 7) (j := 2) (q := 5) 171 d153_168 rfl rfl rfl rfl ?_
        refine wq_l 173 d153_171 rfl rfl rfl rfl ?_
        refine wq_v 176 [_] d153_173 rfl rfl m123 rfl rfl (Nat.le_of_ble_eq_true rfl) rfl (cb123 (y := ((rl_yj s t at_ z m j yb).1, (rl_yj s t at_ z m j yb).2.1, (rl_yj s t at_ z m j yb).2.2.1, (rl_yj s t at_ z m j yb).2.2.2.1 + z, (rl_yj s t at_ z m j yb).2.2.2.2)) (y' := rl_yj s t at_ z m (j + 1) yb) (cb_x hb104 (fun q _ _ => by repeat rw [pm_rne (by omega)]) rfl rfl) ⟨rfl, rfl, rfl, ny.symm⟩ (iy f164) nl (fun σ173 hb173 u173 => ?_))
        refine wq_i 179 d153_176 rfl rfl rfl ?_
        refine wq_g 75 d153_179 (by decide) ?_
        have hn : cr_I l NN σ0 _ nx (rl_Aj s t at_ z m i (j + 1) yb r T) := cr_sjn (inp := False) (idx := fi + j) h (by omega) hm hu hs (⟨fun z => z.elim, fun z => z.1 hat⟩) hidx (cb_Uc f139 u173) ((((u173.2.2 23).resolve_left (by omega))).trans (((u104.2.2 23).resolve_left (by omega)))) ((((u173.2.2 24).resolve_left (by omega))).trans (((u104.2.2 24).resolve_left (by omega)))) ((((u173.2.2 26).resolve_left (by omega))).trans (((u104.2.2 26).resolve_left (by omega)))) (((u173.2.2 25).resolve_left (by omega)).trans (congrArg (fun f => upd f (i + 1 + j) (nI (if at_ = -1 then yb.2.2.2.1 + j * z else rl_img at_))) ((u104.2.2 25).resolve_left (by omega)))) ((((u173.2.2 34).resolve_left (by omega))).trans (((u104.2.2 34).resolve_left (by omega)))) ((((u173.2.2 35).resolve_left (by omega))).trans (((u104.2.2 35).resolve_left (by omega)))) ((((u173.2.2 36).resolve_left (by omega))).trans (((u104.2.2 36).resolve_left (by omega)))) ((((u173.2.2 37).resolve_left (by omega))).trans (((u104.2.2 37).resolve_left (by omega)))) (((u173.2.2 38).resolve_left (by omega)).trans (congrArg (fun f => upd f (fi + j) (nI (8 + s))) ((u104.2.2 38).resolve_left (by omega)))) (((u173.2.2 39).resolve_left (by omega)).trans (congrArg (fun f => upd f (fi + j) (t)) ((u104.2.2 39).resolve_left (by omega)))) (((u173.2.2 40).resolve_left (by omega)).trans (congrArg (fun f => upd f (fi + j) (nI (if at_ = -1 then yb.2.2.2.1 + j * z else rl_img at_))) ((u104.2.2 40).resolve_left (by omega)))) (fun z => z.elim) (fun _ => (((u173.2.2 41).resolve_left (by omega))).trans (((u104.2.2 41).resolve_left (by omega)))) ((((u173.2.2 42).resolve_left (by omega))).trans (((u104.2.2 42).resolve_left (by omega)))) ((((u173.1 6 8).resolve_left (by omega))).trans (((u104.1 6 8).resolve_left (by omega)))) (hb173)
        rw [show nI j + Int32.ofInt 1 = nI (j + 1) from nI_1 j]
        exact ih (j + 1) _ _ (by omega) hn hQ
    · subst hpc
      have ec0 : nI (rl_img (rl_v l p)) = nI (if at_ = -1 then yb.2.2.2.1 + j * z else rl_img at_) := by
        rw [hp3, if_neg hp4]
      have ny : (if at_ = -1 then yb.2.2.2.1 + j * z else yb.2.2.2.1) = (if at_ = -1 then yb.2.2.2.1 + (j + 1) * z else yb.2.2.2.1) := by
        rw [if_neg hp4, if_neg hp4]
      refine wq_l 77 d153_75 rfl rfl rfl rfl ?_
      refine wq_l 78 d153_77 rfl rfl rfl rfl ?_
      refine wq_b 182 81 d153_78 rfl (by decide) rfl (fun c78 => absurd c78 (by rw [i_le, ej, em]; omega)) (fun c78 => ?_)
      refine wq_l 82 d153_81 rfl rfl rfl rfl ?_
      refine wq_k 83 (-1) d153_82 (by decide) rfl ?_
      refine wq_b 94 86 d153_83 rfl (by decide) rfl (fun c83 => absurd c83 (hp_ne (by omega))) (fun c83 => ?_)
      refine wq_l 87 d153_86 rfl rfl rfl rfl ?_
      refine wq_l 88 d153_87 rfl rfl rfl rfl ?_
      refine wq_v 91 [_] d153_88 rfl rfl m155 rfl rfl (Nat.le_of_ble_eq_true rfl) rfl (cr155 hG h hp1 hp2 ?_)
      rw [ec0]
      refine wq_g 107 d153_91 (by decide) ?_
      refine wq_s 109 d153_107 rfl rfl (Nat.le_of_ble_eq_true rfl) rfl rfl ?_
      refine wq_l 110 d153_109 rfl rfl rfl rfl ?_
      refine wq_gr (ci := 7) (j := 3) (q := 6) 113 d153_110 rfl rfl rfl rfl ?_
      refine wq_l 115 d153_113 rfl rfl rfl rfl ?_
      refine wq_l 117 d153_115 rfl rfl rfl rfl ?_
      refine wq_a 118 d153_117 rfl rfl ?_
      rw [nI_add]
      refine wq_l 120 d153_118 rfl rfl rfl rfl ?_
      refine wq_l 122 d153_120 rfl rfl rfl rfl ?_
      refine wq_l 124 d153_122 rfl rfl rfl rfl ?_
      refine wq_v 127 [_, _, _, _] d153_124 rfl rfl m131 rfl rfl (Nat.le_of_ble_eq_true rfl) rfl (sp131 (i := fi + j) (by omega) ?_)
      have f124 := cc_pr (f := upd (σ.2.2 40) (fi + j) (nI (if at_ = -1 then yb.2.2.2.1 + j * z else rl_img at_))) (k := 40) (cc_pr (f := upd (σ.2.2 39) (fi + j) t) (k := 39) (cc_pr (f := upd (σ.2.2 38) (fi + j) (nI (8 + s))) (k := 38) (h.2.2.1) (by decide)) (by decide)) (by decide)
      refine wq_l 128 d153_127 rfl rfl rfl rfl ?_
      refine wq_gr (ci := 7) (j := 0) (q := 3) 131 d153_128 rfl rfl rfl rfl ?_
      refine wq_l 132 d153_131 rfl rfl rfl rfl ?_
      refine wq_k 133 1 d153_132 (by decide) rfl ?_
      refine wq_a 134 d153_133 rfl rfl ?_
      rw [nI_1]
      refine wq_l 136 d153_134 rfl rfl rfl rfl ?_
      refine wq_a 137 d153_136 rfl rfl ?_
      rw [nI_add]
      refine wq_l 139 d153_137 rfl rfl rfl rfl ?_
      refine wq_v 142 [_, _] d153_139 rfl rfl m67 rfl rfl (Nat.le_of_ble_eq_true rfl) rfl (sp67 (i := i + 1 + j) (ct_Zf h.2.1 f124) (by omega) ?_)
      have f139 := cc_pr (f := upd (σ.2.2 25) (i + 1 + j) (nI (if at_ = -1 then yb.2.2.2.1 + j * z else rl_img at_))) (k := 25) f124 (by decide)
      refine wq_l 143 d153_142 rfl rfl rfl rfl ?_
      refine wq_l 144 d153_143 rfl rfl rfl rfl ?_
      refine wq_v 147 [_] d153_144 rfl rfl m150 rfl rfl (Nat.le_of_ble_eq_true rfl) rfl (ck150 hG (ct_Zf h.2.1 f139) hp1 hp2 ?_)
      refine wq_b 162 150 d153_147 rfl (by decide) rfl (fun c147 => ?_) (fun c147 => ?_)
      · -- pc 162
        have f147 := b2z c147
        refine wq_l 164 d153_162 rfl rfl rfl rfl ?_
        refine wq_b 176 167 d153_164 rfl (by decide) rfl (fun c164 => ?_) (fun c164 => ?_)
        · -- pc 176
          have f164 : ¬ part = 1 := of_decide_eq_false (b2z c164)
          refine wq_i 179 d153_176 rfl rfl rfl ?_
          refine wq_g 75 d153_179 (by decide) ?_
          have hn : cr_I l NN σ0 _ nx (rl_Aj s t at_ z m i (j + 1) yb r T) := cr_sjn (inp := False) (idx := fi + j) h (by omega) hm hu hs (⟨fun z => z.elim, fun z => of_decide_eq_false f147 (by rw [hp3]; exact z.2)⟩) hidx (f139) (rfl) (rfl) (rfl) (rfl) (rfl) (rfl) (rfl) (rfl) (rfl) (rfl) (rfl) (fun z => z.elim) (fun _ => rfl) (rfl) (rfl) (cb_vs (y' := rl_yj s t at_ z m (j + 1) yb) (cb_x h.2.2.2.2.1 (fun q _ _ => by repeat rw [pm_rne (by omega)]) rfl rfl) rfl rfl rfl ny.symm (in_ f164))
          rw [show nI j + Int32.ofInt 1 = nI (j + 1) from nI_1 j]
          exact ih (j + 1) _ _ (by omega) hn hQ
        · -- pc 167
          have f164 : part = 1 := of_decide_eq_true (b2n c164)
          refine wq_l 168 d153_167 rfl rfl rfl rfl ?_
          refine wq_gr (ci := 7) (j := 2) (q := 5) 171 d153_168 rfl rfl rfl rfl ?_
          refine wq_l 173 d153_171 rfl rfl rfl rfl ?_
          refine wq_v 176 [_] d153_173 rfl rfl m123 rfl rfl (Nat.le_of_ble_eq_true rfl) rfl (cb123 (y := rl_yj s t at_ z m j yb) (y' := rl_yj s t at_ z m (j + 1) yb) (cb_x h.2.2.2.2.1 (fun q _ _ => by repeat rw [pm_rne (by omega)]) rfl rfl) ⟨rfl, rfl, rfl, ny.symm⟩ (iy f164) nl (fun σ173 hb173 u173 => ?_))
          refine wq_i 179 d153_176 rfl rfl rfl ?_
          refine wq_g 75 d153_179 (by decide) ?_
          have hn : cr_I l NN σ0 _ nx (rl_Aj s t at_ z m i (j + 1) yb r T) := cr_sjn (inp := False) (idx := fi + j) h (by omega) hm hu hs (⟨fun z => z.elim, fun z => of_decide_eq_false f147 (by rw [hp3]; exact z.2)⟩) hidx (cb_Uc f139 u173) (((u173.2.2 23).resolve_left (by omega))) (((u173.2.2 24).resolve_left (by omega))) (((u173.2.2 26).resolve_left (by omega))) (((u173.2.2 25).resolve_left (by omega)).trans (rfl)) (((u173.2.2 34).resolve_left (by omega))) (((u173.2.2 35).resolve_left (by omega))) (((u173.2.2 36).resolve_left (by omega))) (((u173.2.2 37).resolve_left (by omega))) (((u173.2.2 38).resolve_left (by omega)).trans (rfl)) (((u173.2.2 39).resolve_left (by omega)).trans (rfl)) (((u173.2.2 40).resolve_left (by omega)).trans (rfl)) (fun z => z.elim) (fun _ => ((u173.2.2 41).resolve_left (by omega))) (((u173.2.2 42).resolve_left (by omega))) (((u173.1 6 8).resolve_left (by omega))) (hb173)
          rw [show nI j + Int32.ofInt 1 = nI (j + 1) from nI_1 j]
          exact ih (j + 1) _ _ (by omega) hn hQ
      · -- pc 150
        have f147 := b2n c147
        refine wq_l 151 d153_150 rfl rfl rfl rfl ?_
        refine wq_gr (ci := 7) (j := 3) (q := 6) 154 d153_151 rfl rfl rfl rfl ?_
        refine wq_l 156 d153_154 rfl rfl rfl rfl ?_
        refine wq_l 158 d153_156 rfl rfl rfl rfl ?_
        refine wq_a 159 d153_158 rfl rfl ?_
        rw [nI_add]
        refine wq_v 162 [_] d153_159 rfl rfl m133 rfl rfl (Nat.le_of_ble_eq_true rfl) rfl (sp133r (i := fi + j) (n := (cv_L r).length + yb.2.2.2.2.length) hFc hF (by omega) ?_)
        have f159 := cc_pr (f := upd (σ.2.2 41) (fi + j) 1) (k := 41) f139 (by decide)
        refine wq_l 164 d153_162 rfl rfl rfl rfl ?_
        refine wq_b 176 167 d153_164 rfl (by decide) rfl (fun c164 => ?_) (fun c164 => ?_)
        · -- pc 176
          have f164 : ¬ part = 1 := of_decide_eq_false (b2z c164)
          refine wq_i 179 d153_176 rfl rfl rfl ?_
          refine wq_g 75 d153_179 (by decide) ?_
          have hn : cr_I l NN σ0 _ nx (rl_Aj s t at_ z m i (j + 1) yb r T) := cr_sjn (inp := True) (idx := fi + j) h (by omega) hm hu hs (⟨fun _ => ⟨hp4, by rw [← hp3]; exact of_decide_eq_true f147⟩, fun _ => trivial⟩) hidx (f159) (rfl) (rfl) (rfl) (rfl) (rfl) (rfl) (rfl) (rfl) (rfl) (rfl) (rfl) (fun _ => rfl) (fun z => absurd trivial z) (rfl) (rfl) (cb_vs (y' := rl_yj s t at_ z m (j + 1) yb) (cb_x h.2.2.2.2.1 (fun q _ _ => by repeat rw [pm_rne (by omega)]) rfl rfl) rfl rfl rfl ny.symm (in_ f164))
          rw [show nI j + Int32.ofInt 1 = nI (j + 1) from nI_1 j]
          exact ih (j + 1) _ _ (by omega) hn hQ
        · -- pc 167
          have f164 : part = 1 := of_decide_eq_true (b2n c164)
          refine wq_l 168 d153_167 rfl rfl rfl rfl ?_
          refine wq_gr (ci := 7) (j := 2) (q := 5) 171 d153_168 rfl rfl rfl rfl ?_
          refine wq_l 173 d153_171 rfl rfl rfl rfl ?_
          refine wq_v 176 [_] d153_173 rfl rfl m123 rfl rfl (Nat.le_of_ble_eq_true rfl) rfl (cb123 (y := rl_yj s t at_ z m j yb) (y' := rl_yj s t at_ z m (j + 1) yb) (cb_x h.2.2.2.2.1 (fun q _ _ => by repeat rw [pm_rne (by omega)]) rfl rfl) ⟨rfl, rfl, rfl, ny.symm⟩ (iy f164) nl (fun σ173 hb173 u173 => ?_))
          refine wq_i 179 d153_176 rfl rfl rfl ?_
          refine wq_g 75 d153_179 (by decide) ?_
          have hn : cr_I l NN σ0 _ nx (rl_Aj s t at_ z m i (j + 1) yb r T) := cr_sjn (inp := True) (idx := fi + j) h (by omega) hm hu hs (⟨fun _ => ⟨hp4, by rw [← hp3]; exact of_decide_eq_true f147⟩, fun _ => trivial⟩) hidx (cb_Uc f159 u173) (((u173.2.2 23).resolve_left (by omega))) (((u173.2.2 24).resolve_left (by omega))) (((u173.2.2 26).resolve_left (by omega))) (((u173.2.2 25).resolve_left (by omega)).trans (rfl)) (((u173.2.2 34).resolve_left (by omega))) (((u173.2.2 35).resolve_left (by omega))) (((u173.2.2 36).resolve_left (by omega))) (((u173.2.2 37).resolve_left (by omega))) (((u173.2.2 38).resolve_left (by omega)).trans (rfl)) (((u173.2.2 39).resolve_left (by omega)).trans (rfl)) (((u173.2.2 40).resolve_left (by omega)).trans (rfl)) (fun _ => ((u173.2.2 41).resolve_left (by omega)).trans (rfl)) (fun z => absurd trivial z) (((u173.2.2 42).resolve_left (by omega))) (((u173.1 6 8).resolve_left (by omega))) (hb173)
          rw [show nI j + Int32.ofInt 1 = nI (j + 1) from nI_1 j]
          exact ih (j + 1) _ _ (by omega) hn hQ
