/-! A VARIABLE COMES, A VARIABLE IS SETTLED -/
def cv_U (σ σ' : pm_S) : Prop := (∀ a b, (a = 6 ∧ b = 8) ∨ σ'.1 a b = σ.1 a b) ∧ σ'.2.1 = σ.2.1 ∧ ∀ k, (34 ≤ k ∧ k ≤ 41) ∨ σ'.2.2 k = σ.2.2 k
theorem cv_Uc {σ0 σ σ' : pm_S} (h : cc_F σ0 σ) (u : cv_U σ σ') : cc_F σ0 σ' := by
  refine ⟨fun a b => ?_, u.2.1.trans h.2.1, fun k => ?_⟩
  · rcases u.1 a b with q | q
    · omega
    · rw [q]; exact h.1 a b
  · rcases u.2.2 k with q | q
    · omega
    · rw [q]; exact h.2.2 k
theorem cv_Ur (σ : pm_S) : cv_U σ σ := ⟨fun _ _ => Or.inr rfl, rfl, fun _ => Or.inr rfl⟩
theorem cv_Ut {σ σ' σ'' : pm_S} (h : cv_U σ σ') (u : cv_U σ' σ'') : cv_U σ σ'' := by
  refine ⟨fun a b => ?_, u.2.1.trans h.2.1, fun k => ?_⟩
  · rcases u.1 a b with q | q
    · exact Or.inl q
    · rw [q]; exact h.1 a b
  · rcases u.2.2 k with q | q
    · exact Or.inl q
    · rw [q]; exact h.2.2 k
theorem cv_Upr {σ σ' : pm_S} {k : Nat} {f : Nat → Int32} (h : cv_U σ σ') (hk : 34 ≤ k ∧ k ≤ 41) : cv_U σ (pm_pr σ' k f) := by
  refine ⟨h.1, h.2.1, fun k' => ?_⟩
  by_cases q : k' = k
  · left; omega
  · rw [pm_rne q]; exact h.2.2 k'
theorem cv_Upi {σ σ' : pm_S} {x : Int32} (h : cv_U σ σ') : cv_U σ (pm_pi σ' 6 8 x) := by
  refine ⟨fun a b => ?_, h.2.1, h.2.2⟩
  by_cases q : a = 6 ∧ b = 8
  · exact Or.inl q
  · have e : (pm_pi σ' 6 8 x).1 a b = σ'.1 a b := by
      unfold pm_pi
      by_cases q1 : a = 6
      · by_cases q2 : b = 8
        · exact absurd ⟨q1, q2⟩ q
        · simp [q1, q2]
      · simp [q1]
    rw [e]; exact h.1 a b
theorem cv_dec {NN o s : Nat} {F : List (Nat × rl_V)} {σ τ : pm_S} {x : Int32} (hN : NN ≤ 4171) (hI : cv_I NN F σ) (hl : F.length < 4128) (hx : 0 ≤ x.toInt ∧ x.toInt < NN) (hs : s ≤ 2) (h8 : τ.1 6 8 = nI (F.length + 1)) (h34 : τ.2.2 34 = upd (σ.2.2 34) x.toNatClampNeg (nI F.length)) (h35 : τ.2.2 35 = upd (σ.2.2 35) F.length (σ.2.2 34 x.toNatClampNeg)) (h36 : τ.2.2 36 = upd (σ.2.2 36) F.length (nI o)) (h37 : τ.2.2 37 = upd (σ.2.2 37) F.length (nI s)) (h41 : τ.2.2 41 = upd (σ.2.2 41) F.length (b2 (decide (s = 1)))) (hr : ∀ i, i < F.length → τ.2.2 38 i = σ.2.2 38 i ∧ τ.2.2 39 i = σ.2.2 39 i ∧ τ.2.2 40 i = σ.2.2 40 i) : cv_I NN (F ++ [(o, (x, 3, 0, s, -1, 0))]) τ := by
  obtain ⟨i1, i2, i3, i4⟩ := hI
  have xn : x.toNatClampNeg < NN := by have := cl_i x hx.1; omega
  have ln : ∀ y : Nat × rl_V, (F ++ [y]).length = F.length + 1 := fun y => by rw [List.length_append, List.length_singleton]
  refine ⟨by rw [ln]; omega, by rw [ln]; exact h8, fun i o' v hv => ?_, fun y hy => ?_⟩
  · by_cases q : i < F.length
    · rw [List.getElem?_append_left q] at hv
      obtain ⟨a1, a2, a3⟩ := i3 i o' v hv
      have ne : ¬ i = F.length := by omega
      obtain ⟨r1, r2, r3⟩ := hr i q
      refine ⟨?_, ?_, ?_⟩
      · rw [h36, upd_if, if_neg ne]; exact a1
      · unfold cv_at at *
        rw [h37, h41, upd_if, upd_if, if_neg ne, if_neg ne, r1, r2, r3]
        exact a2
      · rw [h35, upd_if, if_neg ne, cv_cha (by omega)]; exact a3
    · have q2 : i = F.length := by
        have := cv_lt hv
        rw [ln] at this
        omega
      subst q2
      rw [List.getElem?_append_right (Nat.le_refl _), Nat.sub_self] at hv
      cases hv
      refine ⟨?_, ?_, ?_⟩
      · rw [h36, upd_if, if_pos rfl]
      · unfold cv_at
        rw [h37, h41, upd_if, upd_if, if_pos rfl, if_pos rfl]
        refine ⟨⟨hs, Nat.le_refl 3⟩, rfl, ?_, fun z => absurd rfl z⟩
        congr 1
        unfold rl_ro
        by_cases w : s = 1
        · rw [decide_eq_true w, decide_eq_true (Or.inl w)]
        · rw [decide_eq_false w, decide_eq_false]
          rintro (z | z)
          · exact w z
          · exact z.1 rfl
      · rw [h35, upd_if, if_pos rfl, cv_cha (Nat.le_refl _), i4 _ xn, nI_cl x hx.1]
  · rw [ln, cv_ch1, h34, upd_if]
    by_cases q : y = x.toNatClampNeg
    · rw [if_pos q, if_pos]
      · rfl
      · rw [q, nI_cl x hx.1]
    · rw [if_neg q, if_neg, i4 y hy]
      intro z
      apply q
      have z : x = nI y := z
      rw [z, nI_clamp (by omega)]
theorem cv_chS {F G : List (Nat × rl_V)} {x : Int32} (h : ∀ k, (F.getD k cv_z).2.1 = (G.getD k cv_z).2.1) : ∀ n, cv_ch F x n = cv_ch G x n
  | 0 => rfl
  | n + 1 => by
    unfold cv_ch
    rw [show (F.getD n (0, 0, 0, 0, 0, 0, 0)).2.1 = (G.getD n (0, 0, 0, 0, 0, 0, 0)).2.1 from h n, cv_chS h n]
theorem cv_re {NN i o : Nat} {F : List (Nat × rl_V)} {σ τ : pm_S} {v v' : rl_V} (hI : cv_I NN F σ) (hv : F[i]? = some (o, v)) (hn : v'.1 = v.1) (h8 : τ.1 6 8 = σ.1 6 8) (hs : τ.2.2 34 = σ.2.2 34 ∧ τ.2.2 35 = σ.2.2 35 ∧ τ.2.2 36 = σ.2.2 36 ∧ τ.2.2 37 = σ.2.2 37) (hr : ∀ j, j ≠ i → τ.2.2 38 j = σ.2.2 38 j ∧ τ.2.2 39 j = σ.2.2 39 j ∧ τ.2.2 40 j = σ.2.2 40 j ∧ τ.2.2 41 j = σ.2.2 41 j) (ha : cv_at τ i v') : cv_I NN (F.set i (o, v')) τ := by
  obtain ⟨i1, i2, i3, i4⟩ := hI
  obtain ⟨s1, s2, s3, s4⟩ := hs
  have hil := cv_lt hv
  have nm : ∀ k, ((F.set i (o, v')).getD k cv_z).2.1 = (F.getD k cv_z).2.1 := fun k => by
    rw [List.getD_eq_getElem?_getD, List.getD_eq_getElem?_getD, List.getElem?_set]
    by_cases q : i = k
    · subst q
      rw [if_pos rfl, if_pos hil, hv]
      exact hn
    · rw [if_neg q]
  refine ⟨by rw [List.length_set]; exact i1, by rw [List.length_set, h8]; exact i2, fun j o' w hw => ?_, fun y hy => ?_⟩
  · rw [cv_chS nm]
    rw [List.getElem?_set] at hw
    by_cases q : i = j
    · subst q
      rw [if_pos rfl, if_pos hil] at hw
      cases hw
      obtain ⟨a1, a2, a3⟩ := i3 i o v hv
      refine ⟨by rw [s3]; exact a1, ha, ?_⟩
      rw [s2, hn]; exact a3
    · rw [if_neg q] at hw
      obtain ⟨a1, a2, a3⟩ := i3 j o' w hw
      obtain ⟨r1, r2, r3, r4⟩ := hr j (fun z => q z.symm)
      refine ⟨by rw [s3]; exact a1, ?_, by rw [s2]; exact a3⟩
      unfold cv_at at *
      rw [s4, r1, r2, r3, r4]
      exact a2
  · rw [List.length_set, cv_chS nm, s1]; exact i4 y hy
theorem cf130 {d : Nat} {σ : pm_S} {Q : Option Value → pm_S → Prop} {NN : Nat} {F : List (Nat × rl_V)} {o s : Nat} {x : Int32} (hN : NN ≤ 4171) (hI : cv_I NN F σ) (hl : F.length < 4128) (hx : 0 ≤ x.toInt ∧ x.toInt < NN) (hs : s ≤ 2) (hQ : ∀ σ', cv_I NN (F ++ [(o, (x, 3, 0, s, -1, 0))]) σ' → cv_U σ σ' → Q (some (.int (nI F.length))) σ') : pm_call pm_Y0 (d + 2) 130 [.ref 6, .int (nI o), .int x, .int (nI s)] σ Q := by
  have ec := hI.2.1
  have eL := nI_toInt (n := F.length) (by omega)
  have ek : (nI F.length).toNatClampNeg = F.length := nI_clamp (by omega)
  have es := nI_toInt (n := s) (by omega)
  have BDc : vp_in (nI F.length) 4128 := vp_in_iff.mpr (by rw [eL]; omega)
  refine wq_m m130 (Nat.le_of_ble_eq_true rfl) (by decide) rfl ?_
  refine wq_l 1 d130_0 rfl rfl rfl rfl ?_
  refine wq_gf (ci := 6) (j := 8) (f := 0) (v := .int (nI F.length)) 4 d130_1 rfl rfl rfl (congrArg Value.int (ec)) rfl ?_
  refine wq_k 7 4128 d130_4 (by decide) rfl ?_
  refine wq_b 23 10 d130_7 rfl (by decide) rfl (fun c7 => absurd c7 (by rw [i_le, eL]; show ¬ (4128 : Int) ≤ _; omega)) (fun c7 => ?_)
  refine wq_l 11 d130_10 rfl rfl rfl rfl ?_
  refine wq_b 23 14 d130_11 rfl (by decide) rfl (fun c11 => absurd c11 (by rw [i_lt]; show ¬ _ < (0 : Int); omega)) (fun c11 => ?_)
  refine wq_l 15 d130_14 rfl rfl rfl rfl ?_
  refine wq_l 16 d130_15 rfl rfl rfl rfl ?_
  refine wq_gr (ci := 6) (j := 0) (q := 34) 19 d130_16 rfl rfl rfl rfl ?_
  refine wq_len 20 d130_19 rfl rfl rfl ?_
  refine wq_b 25 23 d130_20 rfl (by decide) rfl (fun c20 => ?_) (fun c20 => absurd (by rw [i_lt]; show _ < (4171 : Int); omega) c20)
  refine wq_l 26 d130_25 rfl rfl rfl rfl ?_
  refine wq_gr (ci := 6) (j := 1) (q := 35) 29 d130_26 rfl rfl rfl rfl ?_
  refine wq_l 30 d130_29 rfl rfl rfl rfl ?_
  refine wq_gf (ci := 6) (j := 8) (f := 0) (v := .int (nI F.length)) 33 d130_30 rfl rfl rfl (congrArg Value.int (ec)) rfl ?_
  refine wq_l 34 d130_33 rfl rfl rfl rfl ?_
  refine wq_gr (ci := 6) (j := 0) (q := 34) 37 d130_34 rfl rfl rfl rfl ?_
  refine wq_l 38 d130_37 rfl rfl rfl rfl ?_
  refine wq_al 39 d130_38 rfl rfl rfl (vp_in_iff.mpr (by omega)) ?_
  refine wq_as 40 d130_39 rfl rfl rfl (BDc) ?_
  rw [ek]
  refine wq_l 41 d130_40 rfl rfl rfl rfl ?_
  refine wq_gr (ci := 6) (j := 0) (q := 34) 44 d130_41 rfl rfl rfl rfl ?_
  refine wq_l 45 d130_44 rfl rfl rfl rfl ?_
  refine wq_l 46 d130_45 rfl rfl rfl rfl ?_
  refine wq_gf (ci := 6) (j := 8) (f := 0) (v := .int (nI F.length)) 49 d130_46 rfl rfl rfl (congrArg Value.int (ec)) rfl ?_
  refine wq_as 50 d130_49 rfl rfl rfl (vp_in_iff.mpr (by omega)) ?_
  refine wq_l 51 d130_50 rfl rfl rfl rfl ?_
  refine wq_gr (ci := 6) (j := 2) (q := 36) 54 d130_51 rfl rfl rfl rfl ?_
  refine wq_l 55 d130_54 rfl rfl rfl rfl ?_
  refine wq_gf (ci := 6) (j := 8) (f := 0) (v := .int (nI F.length)) 58 d130_55 rfl rfl rfl (congrArg Value.int (ec)) rfl ?_
  refine wq_l 59 d130_58 rfl rfl rfl rfl ?_
  refine wq_as 60 d130_59 rfl rfl rfl (BDc) ?_
  rw [ek]
  refine wq_l 61 d130_60 rfl rfl rfl rfl ?_
  refine wq_gr (ci := 6) (j := 3) (q := 37) 64 d130_61 rfl rfl rfl rfl ?_
  refine wq_l 65 d130_64 rfl rfl rfl rfl ?_
  refine wq_gf (ci := 6) (j := 8) (f := 0) (v := .int (nI F.length)) 68 d130_65 rfl rfl rfl (congrArg Value.int (ec)) rfl ?_
  refine wq_l 69 d130_68 rfl rfl rfl rfl ?_
  refine wq_as 70 d130_69 rfl rfl rfl (BDc) ?_
  rw [ek]
  refine wq_l 71 d130_70 rfl rfl rfl rfl ?_
  refine wq_gr (ci := 6) (j := 7) (q := 41) 74 d130_71 rfl rfl rfl rfl ?_
  refine wq_l 75 d130_74 rfl rfl rfl rfl ?_
  refine wq_gf (ci := 6) (j := 8) (f := 0) (v := .int (nI F.length)) 78 d130_75 rfl rfl rfl (congrArg Value.int (ec)) rfl ?_
  refine wq_l 79 d130_78 rfl rfl rfl rfl ?_
  refine wq_k 80 1 d130_79 (by decide) rfl ?_
  refine wq_b 87 83 d130_80 rfl (by decide) rfl (fun c80 => ?_) (fun c80 => ?_)
  · -- pc 87
    have q80 : ¬ s = 1 := fun z => c80 (congrArg nI z)
    refine wq_k 88 0 d130_87 (by decide) rfl ?_
    refine wq_as 89 d130_88 rfl rfl rfl (BDc) ?_
    rw [ek]
    refine wq_l 90 d130_89 rfl rfl rfl rfl ?_
    refine wq_l 91 d130_90 rfl rfl rfl rfl ?_
    refine wq_gf (ci := 6) (j := 8) (f := 0) (v := .int (nI F.length)) 94 d130_91 rfl rfl rfl (congrArg Value.int (ec)) rfl ?_
    refine wq_k 96 8 d130_94 (by decide) rfl ?_
    refine wq_k 97 0 d130_96 (by decide) rfl ?_
    refine wq_k 98 0 d130_97 (by decide) rfl ?_
    refine wq_v 101 [_, _, _, _] d130_98 rfl rfl m131 rfl rfl (Nat.le_of_ble_eq_true rfl) rfl (sp131 (i := F.length) hl ?_)
    refine wq_l 102 d130_101 rfl rfl rfl rfl ?_
    refine wq_a 103 d130_102 rfl rfl ?_
    refine wq_gf (ci := 6) (j := 8) (f := 0) (v := .int (nI F.length)) 106 d130_103 rfl rfl rfl (congrArg Value.int (ec)) rfl ?_
    refine wq_k 107 1 d130_106 (by decide) rfl ?_
    refine wq_a 108 d130_107 rfl rfl ?_
    refine wq_pf (ci := 6) (j := 8) 111 d130_108 rfl rfl rfl ⟨rfl, rfl⟩ rfl ?_
    refine wq_l 112 d130_111 rfl rfl rfl rfl ?_
    refine wq_gf (ci := 6) (j := 8) (f := 0) (v := .int (nI F.length + 1)) 115 d130_112 rfl rfl rfl (congrArg Value.int (rfl)) rfl ?_
    refine wq_k 116 1 d130_115 (by decide) rfl ?_
    refine wq_a 117 d130_116 rfl rfl ?_
    refine wq_ri d130_117 (rfl) ?_
    rw [show nI F.length + 1 - 1 = nI F.length from by rw [nI_1]; exact nI_pred _]
    refine hQ _ (cv_dec hN hI hl hx hs (nI_1 _) rfl rfl rfl rfl (by rw [decide_eq_false q80]; rfl) (fun i hi => ?_)) ?_
    · have ne : ¬ i = F.length := by omega
      refine ⟨?_, ?_, ?_⟩
      · show upd _ _ _ i = _; rw [upd_if, if_neg ne]; rfl
      · show upd _ _ _ i = _; rw [upd_if, if_neg ne]; rfl
      · show upd _ _ _ i = _; rw [upd_if, if_neg ne]; rfl
    · exact cv_Upi (cv_Upr (cv_Upr (cv_Upr (cv_Upr (cv_Upr (cv_Upr (cv_Upr (cv_Upr (cv_Ur σ) (by decide)) (by decide)) (by decide)) (by decide)) (by decide)) (by decide)) (by decide)) (by decide))
  · -- pc 83
    have q80 : s = 1 := hp_inj (by omega) (by omega) (Classical.not_not.mp c80)
    refine wq_k 84 1 d130_83 (by decide) rfl ?_
    refine wq_g 88 d130_84 (by decide) ?_
    refine wq_as 89 d130_88 rfl rfl rfl (BDc) ?_
    rw [ek]
    refine wq_l 90 d130_89 rfl rfl rfl rfl ?_
    refine wq_l 91 d130_90 rfl rfl rfl rfl ?_
    refine wq_gf (ci := 6) (j := 8) (f := 0) (v := .int (nI F.length)) 94 d130_91 rfl rfl rfl (congrArg Value.int (ec)) rfl ?_
    refine wq_k 96 8 d130_94 (by decide) rfl ?_
    refine wq_k 97 0 d130_96 (by decide) rfl ?_
    refine wq_k 98 0 d130_97 (by decide) rfl ?_
    refine wq_v 101 [_, _, _, _] d130_98 rfl rfl m131 rfl rfl (Nat.le_of_ble_eq_true rfl) rfl (sp131 (i := F.length) hl ?_)
    refine wq_l 102 d130_101 rfl rfl rfl rfl ?_
    refine wq_a 103 d130_102 rfl rfl ?_
    refine wq_gf (ci := 6) (j := 8) (f := 0) (v := .int (nI F.length)) 106 d130_103 rfl rfl rfl (congrArg Value.int (ec)) rfl ?_
    refine wq_k 107 1 d130_106 (by decide) rfl ?_
    refine wq_a 108 d130_107 rfl rfl ?_
    refine wq_pf (ci := 6) (j := 8) 111 d130_108 rfl rfl rfl ⟨rfl, rfl⟩ rfl ?_
    refine wq_l 112 d130_111 rfl rfl rfl rfl ?_
    refine wq_gf (ci := 6) (j := 8) (f := 0) (v := .int (nI F.length + 1)) 115 d130_112 rfl rfl rfl (congrArg Value.int (rfl)) rfl ?_
    refine wq_k 116 1 d130_115 (by decide) rfl ?_
    refine wq_a 117 d130_116 rfl rfl ?_
    refine wq_ri d130_117 (rfl) ?_
    rw [show nI F.length + 1 - 1 = nI F.length from by rw [nI_1]; exact nI_pred _]
    refine hQ _ (cv_dec hN hI hl hx hs (nI_1 _) rfl rfl rfl rfl (by rw [decide_eq_true q80]; rfl) (fun i hi => ?_)) ?_
    · have ne : ¬ i = F.length := by omega
      refine ⟨?_, ?_, ?_⟩
      · show upd _ _ _ i = _; rw [upd_if, if_neg ne]; rfl
      · show upd _ _ _ i = _; rw [upd_if, if_neg ne]; rfl
      · show upd _ _ _ i = _; rw [upd_if, if_neg ne]; rfl
    · exact cv_Upi (cv_Upr (cv_Upr (cv_Upr (cv_Upr (cv_Upr (cv_Upr (cv_Upr (cv_Upr (cv_Ur σ) (by decide)) (by decide)) (by decide)) (by decide)) (by decide)) (by decide)) (by decide)) (by decide))
