theorem d159_0 : decode prog_7_method_11_code 0 = .ok (.aload_n 0, 1) := by decide +kernel
theorem d159_1 : decode prog_7_method_11_code 1 = .ok (.getfield 9, 3) := by decide +kernel
theorem d159_4 : decode prog_7_method_11_code 4 = .ok (.iload_n 1, 1) := by decide +kernel
theorem d159_5 : decode prog_7_method_11_code 5 = .ok (.invokevirtual 110, 3) := by decide +kernel
theorem d159_8 : decode prog_7_method_11_code 8 = .ok (.istore_n 3, 1) := by decide +kernel
theorem d159_9 : decode prog_7_method_11_code 9 = .ok (.aload_n 0, 1) := by decide +kernel
theorem d159_10 : decode prog_7_method_11_code 10 = .ok (.getfield 29, 3) := by decide +kernel
theorem d159_13 : decode prog_7_method_11_code 13 = .ok (.aload_n 0, 1) := by decide +kernel
theorem d159_14 : decode prog_7_method_11_code 14 = .ok (.getfield 19, 3) := by decide +kernel
theorem d159_17 : decode prog_7_method_11_code 17 = .ok (.invokevirtual 129, 3) := by decide +kernel
theorem d159_20 : decode prog_7_method_11_code 20 = .ok (.iload_n 3, 1) := by decide +kernel
theorem d159_21 : decode prog_7_method_11_code 21 = .ok (.invokevirtual 193, 3) := by decide +kernel
theorem d159_24 : decode prog_7_method_11_code 24 = .ok (.iconst (-1), 1) := by decide +kernel
theorem d159_25 : decode prog_7_method_11_code 25 = .ok (.if_icmp .ne 23, 3) := by decide +kernel
theorem d159_28 : decode prog_7_method_11_code 28 = .ok (.aload_n 0, 1) := by decide +kernel
theorem d159_29 : decode prog_7_method_11_code 29 = .ok (.getfield 19, 3) := by decide +kernel
theorem d159_32 : decode prog_7_method_11_code 32 = .ok (.iload_n 3, 1) := by decide +kernel
theorem d159_33 : decode prog_7_method_11_code 33 = .ok (.invokevirtual 117, 3) := by decide +kernel
theorem d159_36 : decode prog_7_method_11_code 36 = .ok (.iconst (-1), 1) := by decide +kernel
theorem d159_37 : decode prog_7_method_11_code 37 = .ok (.if_icmp .ne 11, 3) := by decide +kernel
theorem d159_40 : decode prog_7_method_11_code 40 = .ok (.iload_n 3, 1) := by decide +kernel
theorem d159_41 : decode prog_7_method_11_code 41 = .ok (.invokestatic 120, 3) := by decide +kernel
theorem d159_44 : decode prog_7_method_11_code 44 = .ok (.iconst (-1), 1) := by decide +kernel
theorem d159_45 : decode prog_7_method_11_code 45 = .ok (.if_icmp .eq 6, 3) := by decide +kernel
theorem d159_48 : decode prog_7_method_11_code 48 = .ok (.bipush 12, 2) := by decide +kernel
theorem d159_50 : decode prog_7_method_11_code 50 = .ok (.ireturn, 1) := by decide +kernel
theorem d159_51 : decode prog_7_method_11_code 51 = .ok (.aload_n 0, 1) := by decide +kernel
theorem d159_52 : decode prog_7_method_11_code 52 = .ok (.getfield 29, 3) := by decide +kernel
theorem d159_55 : decode prog_7_method_11_code 55 = .ok (.aload_n 0, 1) := by decide +kernel
theorem d159_56 : decode prog_7_method_11_code 56 = .ok (.getfield 19, 3) := by decide +kernel
theorem d159_59 : decode prog_7_method_11_code 59 = .ok (.invokevirtual 129, 3) := by decide +kernel
theorem d159_62 : decode prog_7_method_11_code 62 = .ok (.iload_n 3, 1) := by decide +kernel
theorem d159_63 : decode prog_7_method_11_code 63 = .ok (.aload_n 0, 1) := by decide +kernel
theorem d159_64 : decode prog_7_method_11_code 64 = .ok (.getfield 9, 3) := by decide +kernel
theorem d159_67 : decode prog_7_method_11_code 67 = .ok (.iload_n 2, 1) := by decide +kernel
theorem d159_68 : decode prog_7_method_11_code 68 = .ok (.invokevirtual 110, 3) := by decide +kernel
theorem d159_71 : decode prog_7_method_11_code 71 = .ok (.invokevirtual 132, 3) := by decide +kernel
theorem d159_74 : decode prog_7_method_11_code 74 = .ok (.pop, 1) := by decide +kernel
theorem d159_75 : decode prog_7_method_11_code 75 = .ok (.iconst 0, 1) := by decide +kernel
theorem d159_76 : decode prog_7_method_11_code 76 = .ok (.ireturn, 1) := by decide +kernel
theorem m159 : pm_m 159 = some (⟨"TypeRules$Rules", "declaredNameFault", "(II)I"⟩, prog_7_method_11_code, 4, (some FieldType.int), 7, 2, 8) := rfl
theorem d158_0 : decode prog_7_method_10_code 0 = .ok (.aload_n 0, 1) := by decide +kernel
theorem d158_1 : decode prog_7_method_10_code 1 = .ok (.getfield 9, 3) := by decide +kernel
theorem d158_4 : decode prog_7_method_10_code 4 = .ok (.iload_n 1, 1) := by decide +kernel
theorem d158_5 : decode prog_7_method_10_code 5 = .ok (.invokevirtual 86, 3) := by decide +kernel
theorem d158_8 : decode prog_7_method_10_code 8 = .ok (.istore_n 2, 1) := by decide +kernel
theorem d158_9 : decode prog_7_method_10_code 9 = .ok (.aload_n 0, 1) := by decide +kernel
theorem d158_10 : decode prog_7_method_10_code 10 = .ok (.getfield 9, 3) := by decide +kernel
theorem d158_13 : decode prog_7_method_10_code 13 = .ok (.iload_n 2, 1) := by decide +kernel
theorem d158_14 : decode prog_7_method_10_code 14 = .ok (.invokevirtual 95, 3) := by decide +kernel
theorem d158_17 : decode prog_7_method_10_code 17 = .ok (.lookupswitch 43 #[(5, 27), (33, 41)], 27) := by decide +kernel
theorem d158_44 : decode prog_7_method_10_code 44 = .ok (.aload_n 0, 1) := by decide +kernel
theorem d158_45 : decode prog_7_method_10_code 45 = .ok (.iload_n 1, 1) := by decide +kernel
theorem d158_46 : decode prog_7_method_10_code 46 = .ok (.aload_n 0, 1) := by decide +kernel
theorem d158_47 : decode prog_7_method_10_code 47 = .ok (.getfield 9, 3) := by decide +kernel
theorem d158_50 : decode prog_7_method_10_code 50 = .ok (.iload_n 2, 1) := by decide +kernel
theorem d158_51 : decode prog_7_method_10_code 51 = .ok (.invokevirtual 86, 3) := by decide +kernel
theorem d158_54 : decode prog_7_method_10_code 54 = .ok (.invokevirtual 186, 3) := by decide +kernel
theorem d158_57 : decode prog_7_method_10_code 57 = .ok (.ireturn, 1) := by decide +kernel
theorem d158_58 : decode prog_7_method_10_code 58 = .ok (.iconst 0, 1) := by decide +kernel
theorem d158_59 : decode prog_7_method_10_code 59 = .ok (.ireturn, 1) := by decide +kernel
theorem d158_60 : decode prog_7_method_10_code 60 = .ok (.aload_n 0, 1) := by decide +kernel
theorem d158_61 : decode prog_7_method_10_code 61 = .ok (.getfield 37, 3) := by decide +kernel
theorem d158_64 : decode prog_7_method_10_code 64 = .ok (.iload_n 1, 1) := by decide +kernel
theorem d158_65 : decode prog_7_method_10_code 65 = .ok (.invokevirtual 190, 3) := by decide +kernel
theorem d158_68 : decode prog_7_method_10_code 68 = .ok (.ireturn, 1) := by decide +kernel
theorem m158 : pm_m 158 = some (⟨"TypeRules$Rules", "nameFault", "(I)I"⟩, prog_7_method_10_code, 3, (some FieldType.int), 7, 1, 8) := rfl
/-! DECLARATIONS of the class: names, places, sizes -/
theorem nI_sbl {a b : Nat} (h : b ≤ a) : nI a - nI b = nI (a - b) := by
  conv => lhs; rw [show a = (a - b) + b by omega]
  exact nI_sb _ _
theorem cb_vs {l : List pg_N} {NN : Nat} {y y' : rl_B} {r : List rl_B} {σ : pm_S} (h : cb_I l NN (y :: r) σ) (h1 : y'.1 = y.1) (h2 : y'.2.1 = y.2.1) (h3 : y'.2.2.1 = y.2.2.1) (h4 : y'.2.2.2.1 = y.2.2.2.1) (hi : rl_ins y' = rl_ins y) : cb_I l NN (y' :: r) σ := by
  have il : ∀ z : rl_B, (rl_ins z).length = rl_nin z := fun z => by unfold rl_ins rl_nin; rw [List.length_reverse, List.length_map]
  obtain ⟨a1, a2, a3, a4, a5, a6⟩ := cb_atc h
  refine cb_hd h h1 h2 rfl rfl rfl (fun _ _ => ⟨rfl, rfl, rfl, rfl, rfl⟩) (fun _ _ => rfl) ⟨h1 ▸ a1, h4 ▸ a2, a3, ?_, ?_, ?_⟩
  · rw [h1, h3]; exact a4
  · rw [← il, hi, il]; exact a5
  · rw [hi]; exact a6
theorem cv_spl {r : List rl_B} {y : rl_B} {a c : List rl_V} {v : rl_V} (h : y.2.2.2.2 = a ++ v :: c) : cv_L (y :: r) = (cv_L r ++ c.reverse.map (fun v => (9 + r.length, v))) ++ (9 + r.length, v) :: a.reverse.map (fun v => (9 + r.length, v)) := by
  show cv_L r ++ y.2.2.2.2.reverse.map _ = _
  rw [h, List.reverse_append, List.reverse_cons, List.map_append, List.map_append, List.append_assoc, List.append_assoc]
  rfl
theorem cv_vs {NN : Nat} {r : List rl_B} {y y' : rl_B} {a c : List rl_V} {v v' : rl_V} {σ τ : pm_S} (hI : cv_I NN (cv_L (y :: r)) σ) (h : y.2.2.2.2 = a ++ v :: c) (h' : y'.2.2.2.2 = a ++ v' :: c) (hn : v'.1 = v.1) (h8 : τ.1 6 8 = σ.1 6 8) (hs : τ.2.2 34 = σ.2.2 34 ∧ τ.2.2 35 = σ.2.2 35 ∧ τ.2.2 36 = σ.2.2 36 ∧ τ.2.2 37 = σ.2.2 37) (hr : ∀ j, j ≠ (cv_L r).length + c.length → τ.2.2 38 j = σ.2.2 38 j ∧ τ.2.2 39 j = σ.2.2 39 j ∧ τ.2.2 40 j = σ.2.2 40 j ∧ τ.2.2 41 j = σ.2.2 41 j) (ha : cv_at τ ((cv_L r).length + c.length) v') : cv_I NN (cv_L (y' :: r)) τ := by
  have e := cv_spl (r := r) h
  have e' := cv_spl (r := r) h'
  have ln : (cv_L r ++ c.reverse.map (fun v => ((9 + r.length, v) : Nat × rl_V))).length = (cv_L r).length + c.length := by rw [List.length_append, List.length_map, List.length_reverse]
  have hv : (cv_L (y :: r))[(cv_L r).length + c.length]? = some (9 + r.length, v) := by
    rw [e, List.getElem?_append_right (by omega), ln, Nat.sub_self]; rfl
  have := cv_re hI hv hn h8 hs hr ha
  rw [e, List.set_append_right _ _ (by omega), ln, Nat.sub_self, List.set_cons_zero, ← e'] at this
  exact this
theorem cv_at0 {NN : Nat} {r : List rl_B} {y : rl_B} {a c : List rl_V} {v : rl_V} {σ : pm_S} (hI : cv_I NN (cv_L (y :: r)) σ) (h : y.2.2.2.2 = a ++ v :: c) : cv_at σ ((cv_L r).length + c.length) v ∧ (cv_L (y :: r))[(cv_L r).length + c.length]? = some (9 + r.length, v) := by
  have e := cv_spl (r := r) h
  have ln : (cv_L r ++ c.reverse.map (fun v => ((9 + r.length, v) : Nat × rl_V))).length = (cv_L r).length + c.length := by rw [List.length_append, List.length_map, List.length_reverse]
  have hv : (cv_L (y :: r))[(cv_L r).length + c.length]? = some (9 + r.length, v) := by
    rw [e, List.getElem?_append_right (by omega), ln, Nat.sub_self]; rfl
  exact ⟨(hI.2.2.1 _ _ _ hv).2.1, hv⟩
theorem rl_insc {y : rl_B} {v : rl_V} {vs : List rl_V} (h : y.2.2.2.2 = v :: vs) (h3 : v.2.1 = 3) : rl_ins y = ((vs.filter rl_isin).map (fun v => v.2.2.1)).reverse := by
  unfold rl_ins
  rw [h, List.filter_cons_of_neg]
  unfold rl_isin
  simp [h3]
/-- images differ -/
theorem pl_inj {a o b p : Nat} (ha : a < 6) (ho : o < 256) (h3 : 3 ≤ a → o < 64) (hb : b < 6) (hp : p < 256) (k3 : 3 ≤ b → p < 64) (h : rl_img (nI (256 * a + o)) = rl_img (nI (256 * b + p))) : nI (256 * a + o) = nI (256 * b + p) := by
  rw [pl_im ha ho, pl_im hb hp] at h
  have : a = b ∧ o = p := by
    by_cases q : a < 3
    · rw [if_pos q] at h
      by_cases w : b < 3
      · rw [if_pos w] at h; omega
      · rw [if_neg w] at h; omega
    · rw [if_neg q] at h
      by_cases w : b < 3
      · rw [if_pos w] at h; omega
      · rw [if_neg w] at h; omega
  rw [this.1, this.2]
theorem cr160 {d : Nat} {l : List pg_N} {NN nx : Nat} {σ0 σ : pm_S} {A : rl_A} {Q : Option Value → pm_S → Prop} {i p : Nat} {v0 : rl_V} {vs : List rl_V} (hG : lg_G l NN) (h : cr_I l NN σ0 σ nx A) (hp : pv_B A.1) (hB : A.1 ≠ []) (hi : i < l.length) (hn : i < nx) (hk : rl_k l i = 7) (hpp : (rl_up l i).head? = some p) (hpi : p < i) (hv0 : (rl_cur A).2.2.2.2 = v0 :: vs) (h30 : v0.2.1 = 3) (h31 : v0.2.2.2.2.1 = -1) (hQ : ∀ σ' A', cr_I l NN σ0 σ' nx A' → ((((if (rl_cur A).1 ≠ 3 ∨ 1 < i - p - 1 ∨ ((rl_cur A).2.2.2.2.any (fun v => decide (v.2.2.2.2.1 = rl_v l i))) = true then 14 else 0, rl_up1 A ((rl_cur A).1, (rl_cur A).2.1, (rl_cur A).2.2.1, (rl_cur A).2.2.2.1, rl_atp (rl_v l i) (rl_cur A).2.2.2.2)) : Nat × rl_A)).1 = 0 → A' = (((if (rl_cur A).1 ≠ 3 ∨ 1 < i - p - 1 ∨ ((rl_cur A).2.2.2.2.any (fun v => decide (v.2.2.2.2.1 = rl_v l i))) = true then 14 else 0, rl_up1 A ((rl_cur A).1, (rl_cur A).2.1, (rl_cur A).2.2.1, (rl_cur A).2.2.2.1, rl_atp (rl_v l i) (rl_cur A).2.2.2.2)) : Nat × rl_A)).2) → Q (some (.int (nI (((if (rl_cur A).1 ≠ 3 ∨ 1 < i - p - 1 ∨ ((rl_cur A).2.2.2.2.any (fun v => decide (v.2.2.2.2.1 = rl_v l i))) = true then 14 else 0, rl_up1 A ((rl_cur A).1, (rl_cur A).2.1, (rl_cur A).2.2.1, (rl_cur A).2.2.2.1, rl_atp (rl_v l i) (rl_cur A).2.2.2.2)) : Nat × rl_A)).1))) σ') : pm_call pm_Y0 (d + 3) 160 [.ref 7, .int (nI i)] σ Q := by
  dsimp only at hQ
  obtain ⟨a, o, ha, ho, h3, hv⟩ := lg_7 hG hi hk
  have hil := pl_l ha ho h3
  rw [← hv] at hil
  have hl := h.2.1.1
  have e1 : nI i - nI p - 1 = nI (i - p - 1) := by
    rw [nI_sbl (by omega)]
    exact nI_sbl (b := 1) (by omega)
  have en := nI_toInt (n := i - p - 1) (by omega)
  have ec := nI_toInt (n := rl_img (rl_v l i)) (by omega)
  have ecl := nI_clamp (n := rl_img (rl_v l i)) (by omega)
  have P := h.2.2.2.2.2.2 (rl_img (rl_v l i)) hil
  have hany : ((rl_cur A).2.2.2.2.any (fun v => decide (v.2.2.2.2.1 = rl_v l i))) = true ↔ σ.2.2 42 (rl_img (rl_v l i)) = 1 := by
    rw [P.2, List.any_eq_true]
    constructor
    · rintro ⟨v, m1, m2⟩
      have m2 := of_decide_eq_true m2
      refine ⟨v, m1, ?_, by rw [m2]⟩
      rw [m2, hv]; exact hp_ne (by omega)
    · rintro ⟨v, m1, m2, m3⟩
      refine ⟨v, m1, decide_eq_true ?_⟩
      have pv := ((pv_cur hp hB).2.2.2.2.1 v m1).2.2.2.2.2.1
      rcases pv with q | ⟨a', o', q1, q2, q3, q4⟩
      · exact absurd q m2
      · rw [hv, q4] at m3
        rw [hv, q4]
        exact pl_inj q1 q2 q3 ha ho h3 m3
  have h14 : ((rl_cur A).1 ≠ 3 ∨ 1 < i - p - 1 ∨ ((rl_cur A).2.2.2.2.any (fun v => decide (v.2.2.2.2.1 = rl_v l i))) = true) → Q (some (.int 14)) σ := fun z => by
    rw [if_pos z] at hQ; exact hQ _ _ h (fun z => absurd (show (14 : Nat) = 0 from z) (by decide))
  have h0 : ¬ ((rl_cur A).1 ≠ 3 ∨ 1 < i - p - 1 ∨ ((rl_cur A).2.2.2.2.any (fun v => decide (v.2.2.2.2.1 = rl_v l i))) = true) → ∀ σ', cr_I l NN σ0 σ' nx (rl_up1 A ((rl_cur A).1, (rl_cur A).2.1, (rl_cur A).2.2.1, (rl_cur A).2.2.2.1, rl_atp (rl_v l i) (rl_cur A).2.2.2.2)) → Q (some (.int 0)) σ' := fun z σ' g => by
    rw [if_neg z] at hQ; exact hQ _ _ g (fun _ => rfl)
  clear hQ
  refine wq_m m160 (Nat.le_of_ble_eq_true rfl) (by decide) rfl ?_
  refine wq_l 1 d160_0 rfl rfl rfl rfl ?_
  refine wq_l 2 d160_1 rfl rfl rfl rfl ?_
  refine wq_gr (ci := 7) (j := 0) (q := 3) 5 d160_2 rfl rfl rfl rfl ?_
  refine wq_l 6 d160_5 rfl rfl rfl rfl ?_
  refine wq_v 9 [_] d160_6 rfl rfl m69 rfl rfl (Nat.le_of_ble_eq_true rfl) rfl (ck69 h (by omega) hn ?_)
  rw [hpp, hp_os]
  refine wq_a 10 d160_9 rfl rfl ?_
  refine wq_k 11 1 d160_10 (by decide) rfl ?_
  refine wq_a 12 d160_11 rfl rfl ?_
  rw [e1]
  refine wq_s 13 d160_12 rfl rfl (Nat.le_of_ble_eq_true rfl) rfl rfl ?_
  refine wq_l 14 d160_13 rfl rfl rfl rfl ?_
  refine wq_l 15 d160_14 rfl rfl rfl rfl ?_
  refine wq_v 18 [_] d160_15 rfl rfl m155 rfl rfl (Nat.le_of_ble_eq_true rfl) rfl (cr155 hG h hi hk ?_)
  refine wq_s 19 d160_18 rfl rfl (Nat.le_of_ble_eq_true rfl) rfl rfl ?_
  refine wq_l 20 d160_19 rfl rfl rfl rfl ?_
  refine wq_k 21 3 d160_20 (by decide) rfl ?_
  refine wq_v 24 [_] d160_21 rfl rfl m147 rfl rfl (Nat.le_of_ble_eq_true rfl) rfl (cr147 (k := 3) (by decide) hp h hB ?_)
  refine wq_b 46 27 d160_24 rfl (by decide) rfl (fun c24 => ?_) (fun c24 => ?_)
  · -- pc 46
    have f24 := b2z c24
    refine wq_k 48 14 d160_46 (by decide) rfl ?_
    refine wq_ri d160_48 (rfl) ?_
    exact h14 (Or.inl (of_decide_eq_false f24))
  · -- pc 27
    have f24 := b2n c24
    refine wq_l 28 d160_27 rfl rfl rfl rfl ?_
    refine wq_k 29 1 d160_28 (by decide) rfl ?_
    refine wq_b 46 32 d160_29 rfl (by decide) rfl (fun c29 => ?_) (fun c29 => ?_)
    · -- pc 46
      refine wq_k 48 14 d160_46 (by decide) rfl ?_
      refine wq_ri d160_48 (rfl) ?_
      exact h14 (Or.inr (Or.inl (by rw [i_lt, en] at c29; have c29 : (1 : Int) < _ := c29; omega)))
    · -- pc 32
      refine wq_l 33 d160_32 rfl rfl rfl rfl ?_
      refine wq_k 34 (-1) d160_33 (by decide) rfl ?_
      refine wq_b 46 37 d160_34 rfl (by decide) rfl (fun c34 => absurd c34 (hp_ne (by omega))) (fun c34 => ?_)
      refine wq_l 38 d160_37 rfl rfl rfl rfl ?_
      refine wq_gr (ci := 7) (j := 6) (q := 42) 41 d160_38 rfl rfl rfl rfl ?_
      refine wq_l 42 d160_41 rfl rfl rfl rfl ?_
      refine wq_al 43 d160_42 rfl rfl rfl (vp_in_iff.mpr (by rw [ec]; omega)) ?_
      rw [ecl]
      refine wq_b 49 46 d160_43 rfl (by decide) rfl (fun c43 => ?_) (fun c43 => ?_)
      · -- pc 49
        refine wq_l 50 d160_49 rfl rfl rfl rfl ?_
        refine wq_gr (ci := 7) (j := 6) (q := 42) 53 d160_50 rfl rfl rfl rfl ?_
        refine wq_l 54 d160_53 rfl rfl rfl rfl ?_
        refine wq_k 55 1 d160_54 (by decide) rfl ?_
        refine wq_as 56 d160_55 rfl rfl rfl (vp_in_iff.mpr (by rw [ec]; omega)) ?_
        rw [ecl]
        refine wq_k 57 0 d160_56 (by decide) rfl ?_
        refine wq_ri d160_57 (rfl) ?_
        have c29 : ¬ 1 < i - p - 1 := by rw [i_lt, en] at c29; have c29 : ¬ (1 : Int) < _ := c29; omega
        refine h0 (fun z => ?_) _ ?_
        · rcases z with w | w | w
          · exact w (of_decide_eq_true f24)
          · exact c29 w
          · rw [hany.mp w] at c43; exact absurd c43 (by decide)
        · obtain ⟨q1, q2, q3, q4, q5, q6, q7⟩ := h
          obtain ⟨B, T⟩ := A
          cases B with
          | nil => exact absurd rfl hB
          | cons y r =>
            have hv0 : y.2.2.2.2 = v0 :: vs := hv0
            have ev : rl_atp (rl_v l i) y.2.2.2.2 = (v0.1, v0.2.1, v0.2.2.1, v0.2.2.2.1, rl_v l i, v0.2.2.2.2.2) :: vs := by rw [hv0]; rfl
            refine ⟨q1, q2, cc_pr q3 (by decide), ct_x q4 (fun q _ _ => pm_rne (by omega)), ?_, ?_, ?_⟩
            · refine cb_x (cb_vs q5 rfl rfl rfl rfl ?_) (fun q _ _ => pm_rne (by omega)) rfl rfl
              rw [rl_insc (y := y) hv0 h30, rl_insc (v := (v0.1, v0.2.1, v0.2.2.1, v0.2.2.2.1, rl_v l i, v0.2.2.2.2.2)) (vs := vs) ev h30]
            · refine cv_x (cv_vs (y := y) (y' := (y.1, y.2.1, y.2.2.1, y.2.2.2.1, rl_atp (rl_v l i) y.2.2.2.2)) (a := []) (c := vs) q6 hv0 ev rfl rfl ⟨rfl, rfl, rfl, rfl⟩ (fun _ _ => ⟨rfl, rfl, rfl, rfl⟩) ?_) (fun q _ _ => pm_rne (by omega)) rfl
              have := (cv_at0 (a := []) q6 hv0).1
              unfold cv_at at this ⊢
              refine ⟨this.1, this.2.1, ?_, fun z => absurd h30 z⟩
              refine this.2.2.1.trans ?_
              congr 1
              unfold rl_ro
              rw [h30]
              simp
            · intro c hc
              have Pc := q7 c hc
              show (upd _ _ _ c = 0 ∨ upd _ _ _ c = 1) ∧ (upd _ _ _ c = 1 ↔ ∃ v ∈ rl_atp (rl_v l i) y.2.2.2.2, _)
              rw [ev, upd_if]
              by_cases w : c = rl_img (rl_v l i)
              · rw [if_pos w]
                refine ⟨Or.inr rfl, ⟨fun _ => ⟨_, List.mem_cons_self .., ?_, w.symm⟩, fun _ => rfl⟩⟩
                show rl_v l i ≠ -1
                rw [hv]; exact hp_ne (by omega)
              · rw [if_neg w]
                refine ⟨Pc.1, Pc.2.trans ⟨?_, ?_⟩⟩
                · rintro ⟨v, m1, m2, m3⟩
                  have m1 : v ∈ y.2.2.2.2 := m1
                  rw [hv0] at m1
                  rcases List.mem_cons.mp m1 with u | u
                  · rw [u] at m2; exact absurd h31 m2
                  · exact ⟨v, List.mem_cons_of_mem _ u, m2, m3⟩
                · rintro ⟨v, m1, m2, m3⟩
                  rcases List.mem_cons.mp m1 with u | u
                  · rw [u] at m3; exact absurd m3.symm w
                  · refine ⟨v, ?_, m2, m3⟩
                    show v ∈ y.2.2.2.2
                    rw [hv0]; exact List.mem_cons_of_mem _ u
      · -- pc 46
        refine wq_k 48 14 d160_46 (by decide) rfl ?_
        refine wq_ri d160_48 (rfl) ?_
        exact h14 (Or.inr (Or.inr (hany.mpr (P.1.resolve_left c43))))
