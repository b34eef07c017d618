theorem d142_0 : decode prog_7_method_4_code 0 = .ok (.aload_n 0, 1) := by decide +kernel
theorem d142_1 : decode prog_7_method_4_code 1 = .ok (.getfield 9, 3) := by decide +kernel
theorem d142_4 : decode prog_7_method_4_code 4 = .ok (.iload_n 1, 1) := by decide +kernel
theorem d142_5 : decode prog_7_method_4_code 5 = .ok (.invokevirtual 95, 3) := by decide +kernel
theorem d142_8 : decode prog_7_method_4_code 8 = .ok (.lookupswitch 132 #[(1, 60), (2, 60), (3, 60), (16, 66), (19, 84), (25, 102)], 60) := by decide +kernel
theorem d142_68 : decode prog_7_method_4_code 68 = .ok (.aload_n 0, 1) := by decide +kernel
theorem d142_69 : decode prog_7_method_4_code 69 = .ok (.iload_n 1, 1) := by decide +kernel
theorem d142_70 : decode prog_7_method_4_code 70 = .ok (.invokevirtual 98, 3) := by decide +kernel
theorem d142_73 : decode prog_7_method_4_code 73 = .ok (.ireturn, 1) := by decide +kernel
theorem d142_74 : decode prog_7_method_4_code 74 = .ok (.aload_n 0, 1) := by decide +kernel
theorem d142_75 : decode prog_7_method_4_code 75 = .ok (.getfield 9, 3) := by decide +kernel
theorem d142_78 : decode prog_7_method_4_code 78 = .ok (.iload_n 1, 1) := by decide +kernel
theorem d142_79 : decode prog_7_method_4_code 79 = .ok (.aload_n 0, 1) := by decide +kernel
theorem d142_80 : decode prog_7_method_4_code 80 = .ok (.getfield 19, 3) := by decide +kernel
theorem d142_83 : decode prog_7_method_4_code 83 = .ok (.iconst 1, 1) := by decide +kernel
theorem d142_84 : decode prog_7_method_4_code 84 = .ok (.invokevirtual 101, 3) := by decide +kernel
theorem d142_87 : decode prog_7_method_4_code 87 = .ok (.invokevirtual 104, 3) := by decide +kernel
theorem d142_90 : decode prog_7_method_4_code 90 = .ok (.iconst 0, 1) := by decide +kernel
theorem d142_91 : decode prog_7_method_4_code 91 = .ok (.ireturn, 1) := by decide +kernel
theorem d142_92 : decode prog_7_method_4_code 92 = .ok (.aload_n 0, 1) := by decide +kernel
theorem d142_93 : decode prog_7_method_4_code 93 = .ok (.getfield 9, 3) := by decide +kernel
theorem d142_96 : decode prog_7_method_4_code 96 = .ok (.iload_n 1, 1) := by decide +kernel
theorem d142_97 : decode prog_7_method_4_code 97 = .ok (.aload_n 0, 1) := by decide +kernel
theorem d142_98 : decode prog_7_method_4_code 98 = .ok (.getfield 19, 3) := by decide +kernel
theorem d142_101 : decode prog_7_method_4_code 101 = .ok (.iconst 1, 1) := by decide +kernel
theorem d142_102 : decode prog_7_method_4_code 102 = .ok (.invokevirtual 101, 3) := by decide +kernel
theorem d142_105 : decode prog_7_method_4_code 105 = .ok (.invokevirtual 107, 3) := by decide +kernel
theorem d142_108 : decode prog_7_method_4_code 108 = .ok (.iconst 0, 1) := by decide +kernel
theorem d142_109 : decode prog_7_method_4_code 109 = .ok (.ireturn, 1) := by decide +kernel
theorem d142_110 : decode prog_7_method_4_code 110 = .ok (.aload_n 0, 1) := by decide +kernel
theorem d142_111 : decode prog_7_method_4_code 111 = .ok (.getfield 9, 3) := by decide +kernel
theorem d142_114 : decode prog_7_method_4_code 114 = .ok (.iload_n 1, 1) := by decide +kernel
theorem d142_115 : decode prog_7_method_4_code 115 = .ok (.invokevirtual 110, 3) := by decide +kernel
theorem d142_118 : decode prog_7_method_4_code 118 = .ok (.iconst 2, 1) := by decide +kernel
theorem d142_119 : decode prog_7_method_4_code 119 = .ok (.if_icmp .lt 19, 3) := by decide +kernel
theorem d142_122 : decode prog_7_method_4_code 122 = .ok (.aload_n 0, 1) := by decide +kernel
theorem d142_123 : decode prog_7_method_4_code 123 = .ok (.getfield 9, 3) := by decide +kernel
theorem d142_126 : decode prog_7_method_4_code 126 = .ok (.iload_n 1, 1) := by decide +kernel
theorem d142_127 : decode prog_7_method_4_code 127 = .ok (.aload_n 0, 1) := by decide +kernel
theorem d142_128 : decode prog_7_method_4_code 128 = .ok (.getfield 19, 3) := by decide +kernel
theorem d142_131 : decode prog_7_method_4_code 131 = .ok (.iconst 1, 1) := by decide +kernel
theorem d142_132 : decode prog_7_method_4_code 132 = .ok (.invokevirtual 101, 3) := by decide +kernel
theorem d142_135 : decode prog_7_method_4_code 135 = .ok (.invokevirtual 104, 3) := by decide +kernel
theorem d142_138 : decode prog_7_method_4_code 138 = .ok (.iconst 0, 1) := by decide +kernel
theorem d142_139 : decode prog_7_method_4_code 139 = .ok (.ireturn, 1) := by decide +kernel
theorem d142_140 : decode prog_7_method_4_code 140 = .ok (.iconst 0, 1) := by decide +kernel
theorem d142_141 : decode prog_7_method_4_code 141 = .ok (.ireturn, 1) := by decide +kernel
theorem m142 : pm_m 142 = some (⟨"TypeRules$Rules", "enter", "(I)I"⟩, prog_7_method_4_code, 2, (some FieldType.int), 7, 1, 8) := rfl
/-! A BLOCK IS ENTERED, in the class -/
theorem cr_new {l : List pg_N} {NN nx : Nat} {σ0 σ : pm_S} {A : rl_A}  {k i c : Nat} {x : Int32} {σ' : pm_S} (h : cr_I l NN σ0 σ nx A) (hb : cb_I l NN ((k, x, i, c, []) :: A.1) σ') (u : cb_U σ σ') (hat : ∀ v ∈ (rl_cur A).2.2.2.2, v.2.2.2.2.1 = -1) : cr_I l NN σ0 σ' nx ((k, x, i, c, []) :: A.1, A.2) := by
  obtain ⟨q1, q2, q3, q4, q5, q6, q7⟩ := h
  refine ⟨q1, q2, cb_Uc q3 u, cb_Ud q4 u, hb, ?_, fun c hc => ?_⟩
  · have e : cv_L ((k, x, i, c, []) :: A.1) = cv_L A.1 := List.append_nil _
    show cv_I NN (cv_L ((k, x, i, c, []) :: A.1)) σ'
    rw [e]
    exact cb_Uv q6 u
  · have P := cb_Up q7 u c hc
    refine ⟨P.1, P.2.trans ⟨?_, ?_⟩⟩
    · rintro ⟨v, m1, m2, m3⟩
      exact absurd (hat v m1) m2
    · rintro ⟨v, m1, _⟩
      exact absurd m1 List.not_mem_nil
theorem cr143_1 {d : Nat} {l : List pg_N} {NN nx : Nat} {σ0 σ : pm_S} {A : rl_A} {Q : Option Value → pm_S → Prop} {i : Nat} (hG : lg_G l NN) (h : cr_I l NN σ0 σ nx A) (hi : i < l.length) (hk : rl_k l i = 1) (hi2 : i + 1 < l.length) (hF : (cv_L A.1).length < 4128) (hb : A.1.length < 409) (hx : 0 ≤ (rl_v l i).toInt ∧ (rl_v l i).toInt < NN) (hat : ¬ (rl_cur A).1 = 3 → ∀ v ∈ (rl_cur A).2.2.2.2, v.2.2.2.2.1 = -1) (hQ : ∀ σ' A', cr_I l NN σ0 σ' nx A' → ((((if (rl_cur A).1 = 3 then (10, A) else if rl_taken A (rl_v l i) = true then (11, A) else (0, ((1, rl_v l i, i, 1, [(rl_v l i, 0, rl_v l (i + 1), 0, -1, 0)]) :: A.1, A.2))) : Nat × rl_A)).1 = 0 → A' = (((if (rl_cur A).1 = 3 then (10, A) else if rl_taken A (rl_v l i) = true then (11, A) else (0, ((1, rl_v l i, i, 1, [(rl_v l i, 0, rl_v l (i + 1), 0, -1, 0)]) :: A.1, A.2))) : Nat × rl_A)).2) → Q (some (.int (nI (((if (rl_cur A).1 = 3 then (10, A) else if rl_taken A (rl_v l i) = true then (11, A) else (0, ((1, rl_v l i, i, 1, [(rl_v l i, 0, rl_v l (i + 1), 0, -1, 0)]) :: A.1, A.2))) : Nat × rl_A)).1))) σ') : pm_call pm_Y0 (d + 3) 143 [.ref 7, .int (nI i)] σ Q := by
  have n33 := hp_oin (N := 0) (q := cb_nm A.1 (rl_v l i)) (fun j hj => by have := cb_nml hj; omega)
  have n44 := hp_oin (N := 0) (q := rl_fn (rl_v l i)) (fun j hj => by have := rl_fnl hj; omega)
  refine wq_m m143 (Nat.le_of_ble_eq_true rfl) (by decide) rfl ?_
  refine wq_l 1 d143_0 rfl rfl rfl rfl ?_
  refine wq_gr (ci := 7) (j := 0) (q := 3) 4 d143_1 rfl rfl rfl rfl ?_
  refine wq_l 5 d143_4 rfl rfl rfl rfl ?_
  refine wq_v 8 [_] d143_5 rfl rfl m66 rfl rfl (Nat.le_of_ble_eq_true rfl) rfl (ck66 (cr_S h) (by omega) ?_)
  refine wq_s 9 d143_8 rfl rfl (Nat.le_of_ble_eq_true rfl) rfl rfl ?_
  refine wq_l 10 d143_9 rfl rfl rfl rfl ?_
  refine wq_gr (ci := 7) (j := 0) (q := 3) 13 d143_10 rfl rfl rfl rfl ?_
  refine wq_l 14 d143_13 rfl rfl rfl rfl ?_
  refine wq_v 17 [_] d143_14 rfl rfl m65 rfl rfl (Nat.le_of_ble_eq_true rfl) rfl (ck65 (cr_S h) hi ?_)
  rw [hk]
  refine wq_s 18 d143_17 rfl rfl (Nat.le_of_ble_eq_true rfl) rfl rfl ?_
  refine wq_l 19 d143_18 rfl rfl rfl rfl ?_
  refine wq_gr (ci := 7) (j := 2) (q := 5) 22 d143_19 rfl rfl rfl rfl ?_
  refine wq_v 25 [] d143_22 rfl rfl m114 rfl rfl (Nat.le_of_ble_eq_true rfl) rfl (cb114 h.2.2.2.2.1 ?_)
  refine wq_b 31 28 d143_25 rfl (by decide) rfl (fun c25 => ?_) (fun c25 => ?_)
  · -- pc 31
    have f25 : ¬ (rl_cur A).1 = 3 := of_decide_eq_false (b2z c25)
    refine wq_l 32 d143_31 rfl rfl rfl rfl ?_
    refine wq_gr (ci := 7) (j := 2) (q := 5) 35 d143_32 rfl rfl rfl rfl ?_
    refine wq_l 36 d143_35 rfl rfl rfl rfl ?_
    refine wq_v 39 [_] d143_36 rfl rfl m115 rfl rfl (Nat.le_of_ble_eq_true rfl) rfl (cb115 h.1 h.2.2.2.2.1 hx ?_)
    refine wq_k 40 (-1) d143_39 (by decide) rfl ?_
    refine wq_b 51 43 d143_40 rfl (by decide) rfl (fun c40 => ?_) (fun c40 => ?_)
    · -- pc 51
      refine wq_k 53 11 d143_51 (by decide) rfl ?_
      refine wq_ri d143_53 (rfl) ?_
      rw [if_neg f25, if_pos (cb_nmt2.mpr (Or.inl (fun z => c40 (n33.mpr z))))] at hQ
      exact hQ _ _ h (fun z => absurd (show (11 : Nat) = 0 from z) (by decide))
    · -- pc 43
      refine wq_l 44 d143_43 rfl rfl rfl rfl ?_
      refine wq_vs 47 [_] d143_44 rfl rfl m22 rfl (Nat.le_of_ble_eq_true rfl) rfl (sp22 ?_)
      refine wq_k 48 (-1) d143_47 (by decide) rfl ?_
      refine wq_b 54 51 d143_48 rfl (by decide) rfl (fun c48 => ?_) (fun c48 => ?_)
      · -- pc 54
        have e36 := n33.mp (Classical.not_not.mp c40)
        have e44 := n44.mp c48
        have tk : ¬ rl_taken A (rl_v l i) = true := fun z => (cb_nmt2.mp z).elim (fun w => w e36) (fun w => w e44)
        rw [if_neg f25, if_neg tk] at hQ
        refine wq_l 55 d143_54 rfl rfl rfl rfl ?_
        refine wq_k 56 1 d143_55 (by decide) rfl ?_
        refine wq_b 72 59 d143_56 rfl (by decide) rfl (fun c56 => absurd c56 (fun z => z rfl)) (fun c56 => ?_)
        refine wq_l 60 d143_59 rfl rfl rfl rfl ?_
        refine wq_gr (ci := 7) (j := 0) (q := 3) 63 d143_60 rfl rfl rfl rfl ?_
        refine wq_l 64 d143_63 rfl rfl rfl rfl ?_
        refine wq_k 65 1 d143_64 (by decide) rfl ?_
        refine wq_a 66 d143_65 rfl rfl ?_
        rw [nI_1]
        refine wq_v 69 [_] d143_66 rfl rfl m66 rfl rfl (Nat.le_of_ble_eq_true rfl) rfl (ck66 (i := i + 1) (cr_S h) hi2 ?_)
        refine wq_g 73 d143_69 (by decide) ?_
        refine wq_s 75 d143_73 rfl rfl (Nat.le_of_ble_eq_true rfl) rfl rfl ?_
        refine wq_l 76 d143_75 rfl rfl rfl rfl ?_
        refine wq_gr (ci := 7) (j := 2) (q := 5) 79 d143_76 rfl rfl rfl rfl ?_
        refine wq_l 80 d143_79 rfl rfl rfl rfl ?_
        refine wq_l 81 d143_80 rfl rfl rfl rfl ?_
        refine wq_l 83 d143_81 rfl rfl rfl rfl ?_
        refine wq_v 86 [_, _, _] d143_83 rfl rfl m112 rfl rfl (Nat.le_of_ble_eq_true rfl) rfl (cb112_1 (i := i) h.2.2.2.2.1 hb h.1 hx e36 rfl f25 (fun σ83 b83 u83 => ?_))
        have h83 := cr_new h b83 u83 (hat f25)
        refine wq_l 87 d143_86 rfl rfl rfl rfl ?_
        refine wq_k 88 1 d143_87 (by decide) rfl ?_
        refine wq_b 123 91 d143_88 rfl (by decide) rfl (fun c88 => absurd c88 (fun z => z rfl)) (fun c88 => ?_)
        refine wq_l 92 d143_91 rfl rfl rfl rfl ?_
        refine wq_gr (ci := 7) (j := 3) (q := 6) 95 d143_92 rfl rfl rfl rfl ?_
        refine wq_l 96 d143_95 rfl rfl rfl rfl ?_
        refine wq_gr (ci := 7) (j := 2) (q := 5) 99 d143_96 rfl rfl rfl rfl ?_
        refine wq_v 102 [] d143_99 rfl rfl m116 rfl rfl (Nat.le_of_ble_eq_true rfl) rfl (cr116 h83 (by intro w; cases w) ?_)
        refine wq_l 103 d143_102 rfl rfl rfl rfl ?_
        refine wq_k 104 0 d143_103 (by decide) rfl ?_
        refine wq_v 107 [_, _, _] d143_104 rfl rfl m130 rfl rfl (Nat.le_of_ble_eq_true rfl) rfl (cr130 (s := 0) h83 (by intro w; cases w) (by show (cv_L A.1 ++ []).length < 4128; rw [List.append_nil]; exact hF) hx (by decide) (fun σ104 h104 => ?_))
        rw [show (cv_L (((1, rl_v l i, i, 1, []) :: A.1, A.2) : rl_A).1).length = (cv_L A.1).length from by show (cv_L A.1 ++ []).length = _; rw [List.append_nil]]
        refine wq_s 109 d143_107 rfl rfl (Nat.le_of_ble_eq_true rfl) rfl rfl ?_
        refine wq_l 110 d143_109 rfl rfl rfl rfl ?_
        refine wq_gr (ci := 7) (j := 3) (q := 6) 113 d143_110 rfl rfl rfl rfl ?_
        refine wq_l 115 d143_113 rfl rfl rfl rfl ?_
        refine wq_k 117 8 d143_115 (by decide) rfl ?_
        refine wq_l 119 d143_117 rfl rfl rfl rfl ?_
        refine wq_k 120 0 d143_119 (by decide) rfl ?_
        refine wq_v 123 [_, _, _, _] d143_120 rfl rfl m131 rfl rfl (Nat.le_of_ble_eq_true rfl) rfl (sp131 (i := (cv_L A.1).length) hF ?_)
        refine wq_k 124 0 d143_123 (by decide) rfl ?_
        refine wq_ri d143_124 (rfl) ?_
        refine hQ _ _ ?_ (fun _ => rfl)
        obtain ⟨q1, q2, q3, q4, q5, q6, q7⟩ := h104
        refine ⟨q1, q2, cc_pr (cc_pr (cc_pr q3 (by decide)) (by decide)) (by decide), ct_x q4 (fun q _ _ => by repeat rw [pm_rne (by omega)]), ?_, ?_, ?_⟩
        · exact cb_x (cb_vs (y' := (1, rl_v l i, i, 1, [(rl_v l i, 0, rl_v l (i + 1), 0, -1, 0)])) q5 rfl rfl rfl rfl rfl) (fun q _ _ => by repeat rw [pm_rne (by omega)]) rfl rfl
        · refine cv_vs (y := (1, rl_v l i, i, 1, [(rl_v l i, 3, 0, 0, -1, 0)])) (y' := (1, rl_v l i, i, 1, [(rl_v l i, 0, rl_v l (i + 1), 0, -1, 0)])) (a := []) (c := []) q6 rfl rfl rfl rfl ⟨rfl, rfl, rfl, rfl⟩ (fun j hj => ⟨?_, ?_, ?_, rfl⟩) ?_
          · have hj : ¬ j = (cv_L A.1).length := hj
            show upd _ _ _ j = _; rw [upd_if, if_neg hj]
          · have hj : ¬ j = (cv_L A.1).length := hj
            show upd _ _ _ j = _; rw [upd_if, if_neg hj]; try rfl
          · have hj : ¬ j = (cv_L A.1).length := hj
            show upd _ _ _ j = _; rw [upd_if, if_neg hj]; try rfl
          · have := (cv_at0 (y := (1, rl_v l i, i, 1, [(rl_v l i, 3, 0, 0, -1, 0)])) (a := []) (c := []) q6 rfl).1
            refine ⟨⟨by show (0 : Nat) ≤ 2; decide, by show (0 : Nat) ≤ 3; decide⟩, this.2.1, this.2.2.1.trans ?_, fun _ => ⟨?_, ?_, ?_⟩⟩
            · congr 1
            · show upd _ _ _ _ = _; rw [upd_if, if_pos (show (cv_L A.1).length + ([] : List rl_V).length = (cv_L A.1).length from Nat.add_zero _)]; try rfl
            · show upd _ _ _ _ = _; rw [upd_if, if_pos (show (cv_L A.1).length + ([] : List rl_V).length = (cv_L A.1).length from Nat.add_zero _)]; try rfl
            · show upd _ _ _ _ = _; rw [upd_if, if_pos (show (cv_L A.1).length + ([] : List rl_V).length = (cv_L A.1).length from Nat.add_zero _)]; try rfl
        · intro c hc
          have P := q7 c hc
          refine ⟨P.1, P.2.trans ⟨?_, ?_⟩⟩
          · rintro ⟨v, m1, m2, _⟩
            rcases List.mem_cons.mp m1 with w | w
            · rw [w] at m2; exact absurd rfl m2
            · exact absurd w List.not_mem_nil
          · rintro ⟨v, m1, m2, _⟩
            rcases List.mem_cons.mp m1 with w | w
            · rw [w] at m2; exact absurd rfl m2
            · exact absurd w List.not_mem_nil
      · -- pc 51
        refine wq_k 53 11 d143_51 (by decide) rfl ?_
        refine wq_ri d143_53 (rfl) ?_
        rw [if_neg f25, if_pos (cb_nmt2.mpr (Or.inr (fun z => c48 (n44.mpr z))))] at hQ
        exact hQ _ _ h (fun z => absurd (show (11 : Nat) = 0 from z) (by decide))
  · -- pc 28
    have f25 : (rl_cur A).1 = 3 := of_decide_eq_true (b2n c25)
    refine wq_k 30 10 d143_28 (by decide) rfl ?_
    refine wq_ri d143_30 (rfl) ?_
    rw [if_pos f25] at hQ
    exact hQ _ _ h (fun z => absurd (show (10 : Nat) = 0 from z) (by decide))
theorem cr143_2 {d : Nat} {l : List pg_N} {NN nx : Nat} {σ0 σ : pm_S} {A : rl_A} {Q : Option Value → pm_S → Prop} {i : Nat} (hG : lg_G l NN) (h : cr_I l NN σ0 σ nx A) (hi : i < l.length) (hk : rl_k l i = 2) (hb : A.1.length < 409) (hx : 0 ≤ (rl_v l i).toInt ∧ (rl_v l i).toInt < NN) (hat : ¬ (rl_cur A).1 = 3 → ∀ v ∈ (rl_cur A).2.2.2.2, v.2.2.2.2.1 = -1) (hQ : ∀ σ' A', cr_I l NN σ0 σ' nx A' → ((((if (rl_cur A).1 = 3 then (10, A) else if rl_taken A (rl_v l i) = true then (11, A) else (0, ((2, rl_v l i, i, 0, []) :: A.1, A.2))) : Nat × rl_A)).1 = 0 → A' = (((if (rl_cur A).1 = 3 then (10, A) else if rl_taken A (rl_v l i) = true then (11, A) else (0, ((2, rl_v l i, i, 0, []) :: A.1, A.2))) : Nat × rl_A)).2) → Q (some (.int (nI (((if (rl_cur A).1 = 3 then (10, A) else if rl_taken A (rl_v l i) = true then (11, A) else (0, ((2, rl_v l i, i, 0, []) :: A.1, A.2))) : Nat × rl_A)).1))) σ') : pm_call pm_Y0 (d + 3) 143 [.ref 7, .int (nI i)] σ Q := by
  have n33 := hp_oin (N := 0) (q := cb_nm A.1 (rl_v l i)) (fun j hj => by have := cb_nml hj; omega)
  have n44 := hp_oin (N := 0) (q := rl_fn (rl_v l i)) (fun j hj => by have := rl_fnl hj; omega)
  refine wq_m m143 (Nat.le_of_ble_eq_true rfl) (by decide) rfl ?_
  refine wq_l 1 d143_0 rfl rfl rfl rfl ?_
  refine wq_gr (ci := 7) (j := 0) (q := 3) 4 d143_1 rfl rfl rfl rfl ?_
  refine wq_l 5 d143_4 rfl rfl rfl rfl ?_
  refine wq_v 8 [_] d143_5 rfl rfl m66 rfl rfl (Nat.le_of_ble_eq_true rfl) rfl (ck66 (cr_S h) (by omega) ?_)
  refine wq_s 9 d143_8 rfl rfl (Nat.le_of_ble_eq_true rfl) rfl rfl ?_
  refine wq_l 10 d143_9 rfl rfl rfl rfl ?_
  refine wq_gr (ci := 7) (j := 0) (q := 3) 13 d143_10 rfl rfl rfl rfl ?_
  refine wq_l 14 d143_13 rfl rfl rfl rfl ?_
  refine wq_v 17 [_] d143_14 rfl rfl m65 rfl rfl (Nat.le_of_ble_eq_true rfl) rfl (ck65 (cr_S h) hi ?_)
  rw [hk]
  refine wq_s 18 d143_17 rfl rfl (Nat.le_of_ble_eq_true rfl) rfl rfl ?_
  refine wq_l 19 d143_18 rfl rfl rfl rfl ?_
  refine wq_gr (ci := 7) (j := 2) (q := 5) 22 d143_19 rfl rfl rfl rfl ?_
  refine wq_v 25 [] d143_22 rfl rfl m114 rfl rfl (Nat.le_of_ble_eq_true rfl) rfl (cb114 h.2.2.2.2.1 ?_)
  refine wq_b 31 28 d143_25 rfl (by decide) rfl (fun c25 => ?_) (fun c25 => ?_)
  · -- pc 31
    have f25 : ¬ (rl_cur A).1 = 3 := of_decide_eq_false (b2z c25)
    refine wq_l 32 d143_31 rfl rfl rfl rfl ?_
    refine wq_gr (ci := 7) (j := 2) (q := 5) 35 d143_32 rfl rfl rfl rfl ?_
    refine wq_l 36 d143_35 rfl rfl rfl rfl ?_
    refine wq_v 39 [_] d143_36 rfl rfl m115 rfl rfl (Nat.le_of_ble_eq_true rfl) rfl (cb115 h.1 h.2.2.2.2.1 hx ?_)
    refine wq_k 40 (-1) d143_39 (by decide) rfl ?_
    refine wq_b 51 43 d143_40 rfl (by decide) rfl (fun c40 => ?_) (fun c40 => ?_)
    · -- pc 51
      refine wq_k 53 11 d143_51 (by decide) rfl ?_
      refine wq_ri d143_53 (rfl) ?_
      rw [if_neg f25, if_pos (cb_nmt2.mpr (Or.inl (fun z => c40 (n33.mpr z))))] at hQ
      exact hQ _ _ h (fun z => absurd (show (11 : Nat) = 0 from z) (by decide))
    · -- pc 43
      refine wq_l 44 d143_43 rfl rfl rfl rfl ?_
      refine wq_vs 47 [_] d143_44 rfl rfl m22 rfl (Nat.le_of_ble_eq_true rfl) rfl (sp22 ?_)
      refine wq_k 48 (-1) d143_47 (by decide) rfl ?_
      refine wq_b 54 51 d143_48 rfl (by decide) rfl (fun c48 => ?_) (fun c48 => ?_)
      · -- pc 54
        have e36 := n33.mp (Classical.not_not.mp c40)
        have e44 := n44.mp c48
        have tk : ¬ rl_taken A (rl_v l i) = true := fun z => (cb_nmt2.mp z).elim (fun w => w e36) (fun w => w e44)
        rw [if_neg f25, if_neg tk] at hQ
        refine wq_l 55 d143_54 rfl rfl rfl rfl ?_
        refine wq_k 56 1 d143_55 (by decide) rfl ?_
        refine wq_b 72 59 d143_56 rfl (by decide) rfl (fun c56 => ?_) (fun c56 => absurd (by decide) c56)
        refine wq_k 73 (-1) d143_72 (by decide) rfl ?_
        refine wq_s 75 d143_73 rfl rfl (Nat.le_of_ble_eq_true rfl) rfl rfl ?_
        refine wq_l 76 d143_75 rfl rfl rfl rfl ?_
        refine wq_gr (ci := 7) (j := 2) (q := 5) 79 d143_76 rfl rfl rfl rfl ?_
        refine wq_l 80 d143_79 rfl rfl rfl rfl ?_
        refine wq_l 81 d143_80 rfl rfl rfl rfl ?_
        refine wq_l 83 d143_81 rfl rfl rfl rfl ?_
        refine wq_v 86 [_, _, _] d143_83 rfl rfl m112 rfl rfl (Nat.le_of_ble_eq_true rfl) rfl (cb112_2 (i := i) h.2.2.2.2.1 hb h.1 hx e36 rfl f25 (fun σ83 b83 u83 => ?_))
        have h83 := cr_new h b83 u83 (hat f25)
        refine wq_l 87 d143_86 rfl rfl rfl rfl ?_
        refine wq_k 88 1 d143_87 (by decide) rfl ?_
        refine wq_b 123 91 d143_88 rfl (by decide) rfl (fun c88 => ?_) (fun c88 => absurd (by decide) c88)
        refine wq_k 124 0 d143_123 (by decide) rfl ?_
        refine wq_ri d143_124 (rfl) ?_
        exact hQ _ _ h83 (fun _ => rfl)
      · -- pc 51
        refine wq_k 53 11 d143_51 (by decide) rfl ?_
        refine wq_ri d143_53 (rfl) ?_
        rw [if_neg f25, if_pos (cb_nmt2.mpr (Or.inr (fun z => c48 (n44.mpr z))))] at hQ
        exact hQ _ _ h (fun z => absurd (show (11 : Nat) = 0 from z) (by decide))
  · -- pc 28
    have f25 : (rl_cur A).1 = 3 := of_decide_eq_true (b2n c25)
    refine wq_k 30 10 d143_28 (by decide) rfl ?_
    refine wq_ri d143_30 (rfl) ?_
    rw [if_pos f25] at hQ
    exact hQ _ _ h (fun z => absurd (show (10 : Nat) = 0 from z) (by decide))
theorem cr143_3 {d : Nat} {l : List pg_N} {NN nx : Nat} {σ0 σ : pm_S} {A : rl_A} {Q : Option Value → pm_S → Prop} {i : Nat} (hG : lg_G l NN) (h : cr_I l NN σ0 σ nx A) (hi : i < l.length) (hk : rl_k l i = 3) (hb : A.1.length < 409) (hx : 0 ≤ (rl_v l i).toInt ∧ (rl_v l i).toInt < NN) (hat : ¬ (rl_cur A).1 = 3 → ∀ v ∈ (rl_cur A).2.2.2.2, v.2.2.2.2.1 = -1) (hQ : ∀ σ' A', cr_I l NN σ0 σ' nx A' → ((((if (rl_cur A).1 = 3 then (10, A) else if rl_taken A (rl_v l i) = true then (11, A) else (0, ((3, rl_v l i, i, 960, []) :: A.1, A.2))) : Nat × rl_A)).1 = 0 → A' = (((if (rl_cur A).1 = 3 then (10, A) else if rl_taken A (rl_v l i) = true then (11, A) else (0, ((3, rl_v l i, i, 960, []) :: A.1, A.2))) : Nat × rl_A)).2) → Q (some (.int (nI (((if (rl_cur A).1 = 3 then (10, A) else if rl_taken A (rl_v l i) = true then (11, A) else (0, ((3, rl_v l i, i, 960, []) :: A.1, A.2))) : Nat × rl_A)).1))) σ') : pm_call pm_Y0 (d + 3) 143 [.ref 7, .int (nI i)] σ Q := by
  have n33 := hp_oin (N := 0) (q := cb_nm A.1 (rl_v l i)) (fun j hj => by have := cb_nml hj; omega)
  have n44 := hp_oin (N := 0) (q := rl_fn (rl_v l i)) (fun j hj => by have := rl_fnl hj; omega)
  refine wq_m m143 (Nat.le_of_ble_eq_true rfl) (by decide) rfl ?_
  refine wq_l 1 d143_0 rfl rfl rfl rfl ?_
  refine wq_gr (ci := 7) (j := 0) (q := 3) 4 d143_1 rfl rfl rfl rfl ?_
  refine wq_l 5 d143_4 rfl rfl rfl rfl ?_
  refine wq_v 8 [_] d143_5 rfl rfl m66 rfl rfl (Nat.le_of_ble_eq_true rfl) rfl (ck66 (cr_S h) (by omega) ?_)
  refine wq_s 9 d143_8 rfl rfl (Nat.le_of_ble_eq_true rfl) rfl rfl ?_
  refine wq_l 10 d143_9 rfl rfl rfl rfl ?_
  refine wq_gr (ci := 7) (j := 0) (q := 3) 13 d143_10 rfl rfl rfl rfl ?_
  refine wq_l 14 d143_13 rfl rfl rfl rfl ?_
  refine wq_v 17 [_] d143_14 rfl rfl m65 rfl rfl (Nat.le_of_ble_eq_true rfl) rfl (ck65 (cr_S h) hi ?_)
  rw [hk]
  refine wq_s 18 d143_17 rfl rfl (Nat.le_of_ble_eq_true rfl) rfl rfl ?_
  refine wq_l 19 d143_18 rfl rfl rfl rfl ?_
  refine wq_gr (ci := 7) (j := 2) (q := 5) 22 d143_19 rfl rfl rfl rfl ?_
  refine wq_v 25 [] d143_22 rfl rfl m114 rfl rfl (Nat.le_of_ble_eq_true rfl) rfl (cb114 h.2.2.2.2.1 ?_)
  refine wq_b 31 28 d143_25 rfl (by decide) rfl (fun c25 => ?_) (fun c25 => ?_)
  · -- pc 31
    have f25 : ¬ (rl_cur A).1 = 3 := of_decide_eq_false (b2z c25)
    refine wq_l 32 d143_31 rfl rfl rfl rfl ?_
    refine wq_gr (ci := 7) (j := 2) (q := 5) 35 d143_32 rfl rfl rfl rfl ?_
    refine wq_l 36 d143_35 rfl rfl rfl rfl ?_
    refine wq_v 39 [_] d143_36 rfl rfl m115 rfl rfl (Nat.le_of_ble_eq_true rfl) rfl (cb115 h.1 h.2.2.2.2.1 hx ?_)
    refine wq_k 40 (-1) d143_39 (by decide) rfl ?_
    refine wq_b 51 43 d143_40 rfl (by decide) rfl (fun c40 => ?_) (fun c40 => ?_)
    · -- pc 51
      refine wq_k 53 11 d143_51 (by decide) rfl ?_
      refine wq_ri d143_53 (rfl) ?_
      rw [if_neg f25, if_pos (cb_nmt2.mpr (Or.inl (fun z => c40 (n33.mpr z))))] at hQ
      exact hQ _ _ h (fun z => absurd (show (11 : Nat) = 0 from z) (by decide))
    · -- pc 43
      refine wq_l 44 d143_43 rfl rfl rfl rfl ?_
      refine wq_vs 47 [_] d143_44 rfl rfl m22 rfl (Nat.le_of_ble_eq_true rfl) rfl (sp22 ?_)
      refine wq_k 48 (-1) d143_47 (by decide) rfl ?_
      refine wq_b 54 51 d143_48 rfl (by decide) rfl (fun c48 => ?_) (fun c48 => ?_)
      · -- pc 54
        have e36 := n33.mp (Classical.not_not.mp c40)
        have e44 := n44.mp c48
        have tk : ¬ rl_taken A (rl_v l i) = true := fun z => (cb_nmt2.mp z).elim (fun w => w e36) (fun w => w e44)
        rw [if_neg f25, if_neg tk] at hQ
        refine wq_l 55 d143_54 rfl rfl rfl rfl ?_
        refine wq_k 56 1 d143_55 (by decide) rfl ?_
        refine wq_b 72 59 d143_56 rfl (by decide) rfl (fun c56 => ?_) (fun c56 => absurd (by decide) c56)
        refine wq_k 73 (-1) d143_72 (by decide) rfl ?_
        refine wq_s 75 d143_73 rfl rfl (Nat.le_of_ble_eq_true rfl) rfl rfl ?_
        refine wq_l 76 d143_75 rfl rfl rfl rfl ?_
        refine wq_gr (ci := 7) (j := 2) (q := 5) 79 d143_76 rfl rfl rfl rfl ?_
        refine wq_l 80 d143_79 rfl rfl rfl rfl ?_
        refine wq_l 81 d143_80 rfl rfl rfl rfl ?_
        refine wq_l 83 d143_81 rfl rfl rfl rfl ?_
        refine wq_v 86 [_, _, _] d143_83 rfl rfl m112 rfl rfl (Nat.le_of_ble_eq_true rfl) rfl (cb112_3 (i := i) h.2.2.2.2.1 hb h.1 hx e36 rfl f25 (fun σ83 b83 u83 => ?_))
        have h83 := cr_new h b83 u83 (hat f25)
        refine wq_l 87 d143_86 rfl rfl rfl rfl ?_
        refine wq_k 88 1 d143_87 (by decide) rfl ?_
        refine wq_b 123 91 d143_88 rfl (by decide) rfl (fun c88 => ?_) (fun c88 => absurd (by decide) c88)
        refine wq_k 124 0 d143_123 (by decide) rfl ?_
        refine wq_ri d143_124 (rfl) ?_
        exact hQ _ _ h83 (fun _ => rfl)
      · -- pc 51
        refine wq_k 53 11 d143_51 (by decide) rfl ?_
        refine wq_ri d143_53 (rfl) ?_
        rw [if_neg f25, if_pos (cb_nmt2.mpr (Or.inr (fun z => c48 (n44.mpr z))))] at hQ
        exact hQ _ _ h (fun z => absurd (show (11 : Nat) = 0 from z) (by decide))
  · -- pc 28
    have f25 : (rl_cur A).1 = 3 := of_decide_eq_true (b2n c25)
    refine wq_k 30 10 d143_28 (by decide) rfl ?_
    refine wq_ri d143_30 (rfl) ?_
    rw [if_pos f25] at hQ
    exact hQ _ _ h (fun z => absurd (show (10 : Nat) = 0 from z) (by decide))
theorem rl_in_b {l : List pg_N} {A : rl_A} {i : Nat} (hk : 1 ≤ rl_k l i ∧ rl_k l i ≤ 3) : rl_in l A i = if (rl_cur A).1 = 3 then (10, A) else if rl_taken A (rl_v l i) = true then (11, A) else (0, ((rl_k l i, rl_v l i, i, (if rl_k l i = 3 then 960 else if rl_k l i = 1 then 1 else 0), (if rl_k l i = 1 then [(rl_v l i, 0, rl_v l (i + 1), 0, -1, 0)] else [])) :: A.1, A.2)) := by
  unfold rl_in
  dsimp only
  rw [if_pos hk]
  by_cases q : (rl_cur A).1 = 3
  · have hB : A.1 ≠ [] := fun z => by
      unfold rl_cur at q
      rw [z] at q
      exact absurd q (by decide)
    rw [if_pos ⟨hB, q⟩, if_pos q]
  · rw [if_neg (fun z => q z.2), if_neg q]
theorem rl_in_o {l : List pg_N} {A : rl_A} {i : Nat} (hk : ¬ (1 ≤ rl_k l i ∧ rl_k l i ≤ 3)) : rl_in l A i = if rl_k l i = 16 then (0, rl_tk (rl_ce A i (nI (rl_fr A))) 1) else if rl_k l i = 19 then (0, rl_tk (rl_me A i (nI (rl_fr A))) 1) else if rl_k l i = 25 ∧ 2 ≤ (rl_v l i).toInt then (0, rl_tk (rl_ce A i (nI (rl_fr A))) 1) else (0, A) := by
  unfold rl_in
  dsimp only
  rw [if_neg hk]
theorem cr142 {d : Nat} {l : List pg_N} {NN nx : Nat} {σ0 σ : pm_S} {A : rl_A} {Q : Option Value → pm_S → Prop} {i : Nat} (hG : lg_G l NN) (h : cr_I l NN σ0 σ nx A) (hi : i < l.length) (hB : ¬ (1 ≤ rl_k l i ∧ rl_k l i ≤ 3) → rl_k l i ≠ 0 → A.1 ≠ []) (hb : 1 ≤ rl_k l i ∧ rl_k l i ≤ 3 → A.1.length < 409) (hF : rl_k l i = 1 → (cv_L A.1).length < 4128) (hat : 1 ≤ rl_k l i ∧ rl_k l i ≤ 3 → ¬ (rl_cur A).1 = 3 → ∀ v ∈ (rl_cur A).2.2.2.2, v.2.2.2.2.1 = -1) (hQ : ∀ σ' A', cr_I l NN σ0 σ' nx A' → ((rl_in l A i).1 = 0 → A' = (rl_in l A i).2) → Q (some (.int (nI (rl_in l A i).1))) σ') : pm_call pm_Y0 (d + 4) 142 [.ref 7, .int (nI i)] σ Q := by
  have kl := (lg_V hG hi).1
  have hx : 1 ≤ rl_k l i ∧ rl_k l i ≤ 3 → 0 ≤ (rl_v l i).toInt ∧ (rl_v l i).toInt < NN := fun z => by
    have e : rp_nk (rl_k l i) = true := by
      have : rl_k l i = 1 ∨ rl_k l i = 2 ∨ rl_k l i = 3 := by omega
      rcases this with w | w | w <;> (rw [w]; rfl)
    have := (lg_V hG hi).2.1 e
    omega
  refine wq_m m142 (Nat.le_of_ble_eq_true rfl) (by decide) rfl ?_
  refine wq_l 1 d142_0 rfl rfl rfl rfl ?_
  refine wq_gr (ci := 7) (j := 0) (q := 3) 4 d142_1 rfl rfl rfl rfl ?_
  refine wq_l 5 d142_4 rfl rfl rfl rfl ?_
  refine wq_v 8 [_] d142_5 rfl rfl m65 rfl rfl (Nat.le_of_ble_eq_true rfl) rfl (ck65 (cr_S h) (by omega) ?_)
  refine wq_lsw [(1, 68), (2, 68), (3, 68), (16, 74), (19, 92), (25, 110)] 140 d142_8 (by decide) (List.forall_mem_cons.mpr ⟨fun e8 => ?_, List.forall_mem_cons.mpr ⟨fun e8 => ?_, List.forall_mem_cons.mpr ⟨fun e8 => ?_, List.forall_mem_cons.mpr ⟨fun e8 => ?_, List.forall_mem_cons.mpr ⟨fun e8 => ?_, List.forall_mem_cons.mpr ⟨fun e8 => ?_, fun _ h => absurd h List.not_mem_nil⟩⟩⟩⟩⟩⟩) (fun e8 => ?_)
  · -- case 1
    have e8 : rl_k l i = 1 := hp_inj (by omega) (by decide) e8
    have hk3 : 1 ≤ rl_k l i ∧ rl_k l i ≤ 3 := by omega
    rw [rl_in_b hk3] at hQ
    rw [e8] at hQ
    have h1s := lg_S hG hi
    rw [e8] at h1s
    obtain ⟨uu, bb, e1s, _⟩ : ∃ u b, (rl_c l i).map (rl_k l) = 8 :: (u ++ [b]) ∧ (∀ x ∈ u, x = 4) ∧ sh_b b := h1s
    have hi2 := (lg_h hG hi e1s).1
    refine wq_l 69 d142_68 rfl rfl rfl rfl ?_
    refine wq_l 70 d142_69 rfl rfl rfl rfl ?_
    refine wq_v 73 [_] d142_70 rfl rfl m143 rfl rfl (Nat.le_of_ble_eq_true rfl) rfl (cr143_1 hG h hi e8 hi2 (hF e8) (hb hk3) (hx hk3) (hat hk3) (fun σ70 A70 h70 g70 => ?_))
    refine wq_ri d142_73 (rfl) ?_
    exact hQ _ _ h70 g70
  · -- case 2
    have e8 : rl_k l i = 2 := hp_inj (by omega) (by decide) e8
    have hk3 : 1 ≤ rl_k l i ∧ rl_k l i ≤ 3 := by omega
    rw [rl_in_b hk3] at hQ
    rw [e8] at hQ
    refine wq_l 69 d142_68 rfl rfl rfl rfl ?_
    refine wq_l 70 d142_69 rfl rfl rfl rfl ?_
    refine wq_v 73 [_] d142_70 rfl rfl m143 rfl rfl (Nat.le_of_ble_eq_true rfl) rfl (cr143_2 hG h hi e8 (hb hk3) (hx hk3) (hat hk3) (fun σ70 A70 h70 g70 => ?_))
    refine wq_ri d142_73 (rfl) ?_
    exact hQ _ _ h70 g70
  · -- case 3
    have e8 : rl_k l i = 3 := hp_inj (by omega) (by decide) e8
    have hk3 : 1 ≤ rl_k l i ∧ rl_k l i ≤ 3 := by omega
    rw [rl_in_b hk3] at hQ
    rw [e8] at hQ
    refine wq_l 69 d142_68 rfl rfl rfl rfl ?_
    refine wq_l 70 d142_69 rfl rfl rfl rfl ?_
    refine wq_v 73 [_] d142_70 rfl rfl m143 rfl rfl (Nat.le_of_ble_eq_true rfl) rfl (cr143_3 hG h hi e8 (hb hk3) (hx hk3) (hat hk3) (fun σ70 A70 h70 g70 => ?_))
    refine wq_ri d142_73 (rfl) ?_
    exact hQ _ _ h70 g70
  · -- case 16
    have e8 : rl_k l i = 16 := hp_inj (by omega) (by decide) e8
    have hB := hB (by omega) (by omega)
    rw [rl_in_o (by omega)] at hQ
    rw [if_pos e8] at hQ
    refine wq_l 75 d142_74 rfl rfl rfl rfl ?_
    refine wq_gr (ci := 7) (j := 0) (q := 3) 78 d142_75 rfl rfl rfl rfl ?_
    refine wq_l 79 d142_78 rfl rfl rfl rfl ?_
    refine wq_l 80 d142_79 rfl rfl rfl rfl ?_
    refine wq_gr (ci := 7) (j := 2) (q := 5) 83 d142_80 rfl rfl rfl rfl ?_
    refine wq_k 84 1 d142_83 (by decide) rfl ?_
    refine wq_v 87 [_] d142_84 rfl rfl m113 rfl rfl (Nat.le_of_ble_eq_true rfl) rfl (cr113 (n := 1) h hB (fun σ84 h84 => ?_))
    refine wq_v 90 [_, _] d142_87 rfl rfl m67 rfl rfl (Nat.le_of_ble_eq_true rfl) rfl (ck67 h84 (by omega) (fun σ87 h87 => ?_))
    refine wq_k 91 0 d142_90 (by decide) rfl ?_
    refine wq_ri d142_91 (rfl) ?_
    exact hQ _ _ h87 (fun _ => rfl)
  · -- case 19
    have e8 : rl_k l i = 19 := hp_inj (by omega) (by decide) e8
    have hB := hB (by omega) (by omega)
    rw [rl_in_o (by omega)] at hQ
    rw [if_neg (by omega), if_pos e8] at hQ
    refine wq_l 93 d142_92 rfl rfl rfl rfl ?_
    refine wq_gr (ci := 7) (j := 0) (q := 3) 96 d142_93 rfl rfl rfl rfl ?_
    refine wq_l 97 d142_96 rfl rfl rfl rfl ?_
    refine wq_l 98 d142_97 rfl rfl rfl rfl ?_
    refine wq_gr (ci := 7) (j := 2) (q := 5) 101 d142_98 rfl rfl rfl rfl ?_
    refine wq_k 102 1 d142_101 (by decide) rfl ?_
    refine wq_v 105 [_] d142_102 rfl rfl m113 rfl rfl (Nat.le_of_ble_eq_true rfl) rfl (cr113 (n := 1) h hB (fun σ102 h102 => ?_))
    refine wq_v 108 [_, _] d142_105 rfl rfl m68 rfl rfl (Nat.le_of_ble_eq_true rfl) rfl (ck68 h102 (by omega) (fun σ105 h105 => ?_))
    refine wq_k 109 0 d142_108 (by decide) rfl ?_
    refine wq_ri d142_109 (rfl) ?_
    exact hQ _ _ h105 (fun _ => rfl)
  · -- case 25
    have e8 : rl_k l i = 25 := hp_inj (by omega) (by decide) e8
    have hB := hB (by omega) (by omega)
    rw [rl_in_o (by omega)] at hQ
    rw [if_neg (by omega), if_neg (by omega)] at hQ
    obtain ⟨gg, gg1, gg2⟩ := (lg_V hG hi).2.2.2.2.2.1 (Or.inl e8)
    have egg := nI_toInt (n := gg) (by omega)
    refine wq_l 111 d142_110 rfl rfl rfl rfl ?_
    refine wq_gr (ci := 7) (j := 0) (q := 3) 114 d142_111 rfl rfl rfl rfl ?_
    refine wq_l 115 d142_114 rfl rfl rfl rfl ?_
    refine wq_v 118 [_] d142_115 rfl rfl m66 rfl rfl (Nat.le_of_ble_eq_true rfl) rfl (ck66 (cr_S h) (by omega) ?_)
    refine wq_k 119 2 d142_118 (by decide) rfl ?_
    rw [gg2] at hQ ⊢
    refine wq_b 138 122 d142_119 rfl (by decide) rfl (fun c119 => ?_) (fun c119 => ?_)
    · -- pc 138
      refine wq_k 139 0 d142_138 (by decide) rfl ?_
      refine wq_ri d142_139 (rfl) ?_
      rw [if_neg (fun z => by rw [i_lt, egg] at c119; have c119 : (gg : Int) < 2 := c119; rw [egg] at z; omega)] at hQ
      exact hQ _ _ h (fun _ => rfl)
    · -- pc 122
      refine wq_l 123 d142_122 rfl rfl rfl rfl ?_
      refine wq_gr (ci := 7) (j := 0) (q := 3) 126 d142_123 rfl rfl rfl rfl ?_
      refine wq_l 127 d142_126 rfl rfl rfl rfl ?_
      refine wq_l 128 d142_127 rfl rfl rfl rfl ?_
      refine wq_gr (ci := 7) (j := 2) (q := 5) 131 d142_128 rfl rfl rfl rfl ?_
      refine wq_k 132 1 d142_131 (by decide) rfl ?_
      refine wq_v 135 [_] d142_132 rfl rfl m113 rfl rfl (Nat.le_of_ble_eq_true rfl) rfl (cr113 (n := 1) h hB (fun σ132 h132 => ?_))
      refine wq_v 138 [_, _] d142_135 rfl rfl m67 rfl rfl (Nat.le_of_ble_eq_true rfl) rfl (ck67 h132 (by omega) (fun σ135 h135 => ?_))
      refine wq_k 139 0 d142_138 (by decide) rfl ?_
      refine wq_ri d142_139 (rfl) ?_
      rw [if_pos ⟨e8, by rw [i_lt, egg] at c119; have c119 : ¬ (gg : Int) < 2 := c119; rw [egg]; omega⟩] at hQ
      exact hQ _ _ h135 (fun _ => rfl)
  · -- default
    have w8_1 := e8 (1, 68) (by decide)
    have w8_2 := e8 (2, 68) (by decide)
    have w8_3 := e8 (3, 68) (by decide)
    have w8_16 := e8 (16, 74) (by decide)
    have w8_19 := e8 (19, 92) (by decide)
    have w8_25 := e8 (25, 110) (by decide)
    refine wq_k 141 0 d142_140 (by decide) rfl ?_
    refine wq_ri d142_141 (rfl) ?_
    have nk : ∀ k : Nat, k < 2 ^ 20 → (rl_k l i = k → nI (rl_k l i) = nI k) := fun k _ z => by rw [z]
    have n3 : ¬ (1 ≤ rl_k l i ∧ rl_k l i ≤ 3) := fun z => by
      have q3 : rl_k l i = 1 ∨ rl_k l i = 2 ∨ rl_k l i = 3 := by omega
      rcases q3 with w | w | w
      · exact w8_1 (nk 1 (by decide) w)
      · exact w8_2 (nk 2 (by decide) w)
      · exact w8_3 (nk 3 (by decide) w)
    rw [rl_in_o n3, if_neg (fun z => w8_16 (nk 16 (by decide) z)), if_neg (fun z => w8_19 (nk 19 (by decide) z)), if_neg (fun z => w8_25 (nk 25 (by decide) z.1))] at hQ
    exact hQ _ _ h (fun _ => rfl)
