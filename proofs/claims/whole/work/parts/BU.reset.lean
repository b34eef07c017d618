theorem d111_0 : decode prog_2_method_3_code 0 = .ok (.iconst 0, 1) := by decide +kernel
theorem d111_1 : decode prog_2_method_3_code 1 = .ok (.istore_n 2, 1) := by decide +kernel
theorem d111_2 : decode prog_2_method_3_code 2 = .ok (.iload_n 2, 1) := by decide +kernel
theorem d111_3 : decode prog_2_method_3_code 3 = .ok (.iload_n 1, 1) := by decide +kernel
theorem d111_4 : decode prog_2_method_3_code 4 = .ok (.if_icmp .ge 25, 3) := by decide +kernel
theorem d111_7 : decode prog_2_method_3_code 7 = .ok (.iload_n 2, 1) := by decide +kernel
theorem d111_8 : decode prog_2_method_3_code 8 = .ok (.aload_n 0, 1) := by decide +kernel
theorem d111_9 : decode prog_2_method_3_code 9 = .ok (.getfield 20, 3) := by decide +kernel
theorem d111_12 : decode prog_2_method_3_code 12 = .ok (.arraylength, 1) := by decide +kernel
theorem d111_13 : decode prog_2_method_3_code 13 = .ok (.if_icmp .ge 16, 3) := by decide +kernel
theorem d111_16 : decode prog_2_method_3_code 16 = .ok (.aload_n 0, 1) := by decide +kernel
theorem d111_17 : decode prog_2_method_3_code 17 = .ok (.getfield 20, 3) := by decide +kernel
theorem d111_20 : decode prog_2_method_3_code 20 = .ok (.iload_n 2, 1) := by decide +kernel
theorem d111_21 : decode prog_2_method_3_code 21 = .ok (.iconst (-1), 1) := by decide +kernel
theorem d111_22 : decode prog_2_method_3_code 22 = .ok (.iastore, 1) := by decide +kernel
theorem d111_23 : decode prog_2_method_3_code 23 = .ok (.iinc 2 1, 3) := by decide +kernel
theorem d111_26 : decode prog_2_method_3_code 26 = .ok (.goto (-24), 3) := by decide +kernel
theorem d111_29 : decode prog_2_method_3_code 29 = .ok (.aload_n 0, 1) := by decide +kernel
theorem d111_30 : decode prog_2_method_3_code 30 = .ok (.iconst 0, 1) := by decide +kernel
theorem d111_31 : decode prog_2_method_3_code 31 = .ok (.putfield 42, 3) := by decide +kernel
theorem d111_34 : decode prog_2_method_3_code 34 = .ok (.aload_n 0, 1) := by decide +kernel
theorem d111_35 : decode prog_2_method_3_code 35 = .ok (.iconst 0, 1) := by decide +kernel
theorem d111_36 : decode prog_2_method_3_code 36 = .ok (.putfield 46, 3) := by decide +kernel
theorem d111_39 : decode prog_2_method_3_code 39 = .ok (.aload_n 0, 1) := by decide +kernel
theorem d111_40 : decode prog_2_method_3_code 40 = .ok (.iconst 0, 1) := by decide +kernel
theorem d111_41 : decode prog_2_method_3_code 41 = .ok (.putfield 49, 3) := by decide +kernel
theorem d111_44 : decode prog_2_method_3_code 44 = .ok (.iconst 0, 1) := by decide +kernel
theorem d111_45 : decode prog_2_method_3_code 45 = .ok (.istore_n 2, 1) := by decide +kernel
theorem d111_46 : decode prog_2_method_3_code 46 = .ok (.iload_n 2, 1) := by decide +kernel
theorem d111_47 : decode prog_2_method_3_code 47 = .ok (.bipush 9, 2) := by decide +kernel
theorem d111_49 : decode prog_2_method_3_code 49 = .ok (.if_icmp .ge 29, 3) := by decide +kernel
theorem d111_52 : decode prog_2_method_3_code 52 = .ok (.aload_n 0, 1) := by decide +kernel
theorem d111_53 : decode prog_2_method_3_code 53 = .ok (.iconst 2, 1) := by decide +kernel
theorem d111_54 : decode prog_2_method_3_code 54 = .ok (.bipush 41, 2) := by decide +kernel
theorem d111_56 : decode prog_2_method_3_code 56 = .ok (.iload_n 2, 1) := by decide +kernel
theorem d111_57 : decode prog_2_method_3_code 57 = .ok (.iadd, 1) := by decide +kernel
theorem d111_58 : decode prog_2_method_3_code 58 = .ok (.iconst (-1), 1) := by decide +kernel
theorem d111_59 : decode prog_2_method_3_code 59 = .ok (.invokevirtual 57, 3) := by decide +kernel
theorem d111_62 : decode prog_2_method_3_code 62 = .ok (.aload_n 0, 1) := by decide +kernel
theorem d111_63 : decode prog_2_method_3_code 63 = .ok (.getstatic 61, 3) := by decide +kernel
theorem d111_66 : decode prog_2_method_3_code 66 = .ok (.iload_n 2, 1) := by decide +kernel
theorem d111_67 : decode prog_2_method_3_code 67 = .ok (.iaload, 1) := by decide +kernel
theorem d111_68 : decode prog_2_method_3_code 68 = .ok (.invokevirtual 64, 3) := by decide +kernel
theorem d111_71 : decode prog_2_method_3_code 71 = .ok (.pop, 1) := by decide +kernel
theorem d111_72 : decode prog_2_method_3_code 72 = .ok (.iinc 2 1, 3) := by decide +kernel
theorem d111_75 : decode prog_2_method_3_code 75 = .ok (.goto (-29), 3) := by decide +kernel
theorem d111_78 : decode prog_2_method_3_code 78 = .ok (.aload_n 0, 1) := by decide +kernel
theorem d111_79 : decode prog_2_method_3_code 79 = .ok (.getfield 14, 3) := by decide +kernel
theorem d111_82 : decode prog_2_method_3_code 82 = .ok (.iload_n 1, 1) := by decide +kernel
theorem d111_83 : decode prog_2_method_3_code 83 = .ok (.invokevirtual 68, 3) := by decide +kernel
theorem d111_86 : decode prog_2_method_3_code 86 = .ok (.return_, 1) := by decide +kernel
theorem m111 : pm_m 111 = some (⟨"TypeRules$Blocks", "reset", "(I)V"⟩, prog_2_method_3_code, 3, none, 5, 1, 6) := rfl
theorem d129_0 : decode prog_11_method_2_code 0 = .ok (.iconst 0, 1) := by decide +kernel
theorem d129_1 : decode prog_11_method_2_code 1 = .ok (.istore_n 2, 1) := by decide +kernel
theorem d129_2 : decode prog_11_method_2_code 2 = .ok (.iload_n 2, 1) := by decide +kernel
theorem d129_3 : decode prog_11_method_2_code 3 = .ok (.iload_n 1, 1) := by decide +kernel
theorem d129_4 : decode prog_11_method_2_code 4 = .ok (.if_icmp .ge 25, 3) := by decide +kernel
theorem d129_7 : decode prog_11_method_2_code 7 = .ok (.iload_n 2, 1) := by decide +kernel
theorem d129_8 : decode prog_11_method_2_code 8 = .ok (.aload_n 0, 1) := by decide +kernel
theorem d129_9 : decode prog_11_method_2_code 9 = .ok (.getfield 11, 3) := by decide +kernel
theorem d129_12 : decode prog_11_method_2_code 12 = .ok (.arraylength, 1) := by decide +kernel
theorem d129_13 : decode prog_11_method_2_code 13 = .ok (.if_icmp .ge 16, 3) := by decide +kernel
theorem d129_16 : decode prog_11_method_2_code 16 = .ok (.aload_n 0, 1) := by decide +kernel
theorem d129_17 : decode prog_11_method_2_code 17 = .ok (.getfield 11, 3) := by decide +kernel
theorem d129_20 : decode prog_11_method_2_code 20 = .ok (.iload_n 2, 1) := by decide +kernel
theorem d129_21 : decode prog_11_method_2_code 21 = .ok (.iconst (-1), 1) := by decide +kernel
theorem d129_22 : decode prog_11_method_2_code 22 = .ok (.iastore, 1) := by decide +kernel
theorem d129_23 : decode prog_11_method_2_code 23 = .ok (.iinc 2 1, 3) := by decide +kernel
theorem d129_26 : decode prog_11_method_2_code 26 = .ok (.goto (-24), 3) := by decide +kernel
theorem d129_29 : decode prog_11_method_2_code 29 = .ok (.aload_n 0, 1) := by decide +kernel
theorem d129_30 : decode prog_11_method_2_code 30 = .ok (.iconst 0, 1) := by decide +kernel
theorem d129_31 : decode prog_11_method_2_code 31 = .ok (.putfield 39, 3) := by decide +kernel
theorem d129_34 : decode prog_11_method_2_code 34 = .ok (.iconst 0, 1) := by decide +kernel
theorem d129_35 : decode prog_11_method_2_code 35 = .ok (.istore_n 2, 1) := by decide +kernel
theorem d129_36 : decode prog_11_method_2_code 36 = .ok (.iload_n 2, 1) := by decide +kernel
theorem d129_37 : decode prog_11_method_2_code 37 = .ok (.iconst 5, 1) := by decide +kernel
theorem d129_38 : decode prog_11_method_2_code 38 = .ok (.iadd, 1) := by decide +kernel
theorem d129_39 : decode prog_11_method_2_code 39 = .ok (.getstatic 43, 3) := by decide +kernel
theorem d129_42 : decode prog_11_method_2_code 42 = .ok (.arraylength, 1) := by decide +kernel
theorem d129_43 : decode prog_11_method_2_code 43 = .ok (.if_icmp .gt 57, 3) := by decide +kernel
theorem d129_46 : decode prog_11_method_2_code 46 = .ok (.aload_n 0, 1) := by decide +kernel
theorem d129_47 : decode prog_11_method_2_code 47 = .ok (.getstatic 43, 3) := by decide +kernel
theorem d129_50 : decode prog_11_method_2_code 50 = .ok (.iload_n 2, 1) := by decide +kernel
theorem d129_51 : decode prog_11_method_2_code 51 = .ok (.iaload, 1) := by decide +kernel
theorem d129_52 : decode prog_11_method_2_code 52 = .ok (.bipush 60, 2) := by decide +kernel
theorem d129_54 : decode prog_11_method_2_code 54 = .ok (.getstatic 43, 3) := by decide +kernel
theorem d129_57 : decode prog_11_method_2_code 57 = .ok (.iload_n 2, 1) := by decide +kernel
theorem d129_58 : decode prog_11_method_2_code 58 = .ok (.iconst 1, 1) := by decide +kernel
theorem d129_59 : decode prog_11_method_2_code 59 = .ok (.iadd, 1) := by decide +kernel
theorem d129_60 : decode prog_11_method_2_code 60 = .ok (.iaload, 1) := by decide +kernel
theorem d129_61 : decode prog_11_method_2_code 61 = .ok (.iadd, 1) := by decide +kernel
theorem d129_62 : decode prog_11_method_2_code 62 = .ok (.getstatic 43, 3) := by decide +kernel
theorem d129_65 : decode prog_11_method_2_code 65 = .ok (.iload_n 2, 1) := by decide +kernel
theorem d129_66 : decode prog_11_method_2_code 66 = .ok (.iconst 2, 1) := by decide +kernel
theorem d129_67 : decode prog_11_method_2_code 67 = .ok (.iadd, 1) := by decide +kernel
theorem d129_68 : decode prog_11_method_2_code 68 = .ok (.iaload, 1) := by decide +kernel
theorem d129_69 : decode prog_11_method_2_code 69 = .ok (.invokevirtual 46, 3) := by decide +kernel
theorem d129_72 : decode prog_11_method_2_code 72 = .ok (.istore_n 3, 1) := by decide +kernel
theorem d129_73 : decode prog_11_method_2_code 73 = .ok (.aload_n 0, 1) := by decide +kernel
theorem d129_74 : decode prog_11_method_2_code 74 = .ok (.iload_n 3, 1) := by decide +kernel
theorem d129_75 : decode prog_11_method_2_code 75 = .ok (.bipush 8, 2) := by decide +kernel
theorem d129_77 : decode prog_11_method_2_code 77 = .ok (.getstatic 43, 3) := by decide +kernel
theorem d129_80 : decode prog_11_method_2_code 80 = .ok (.iload_n 2, 1) := by decide +kernel
theorem d129_81 : decode prog_11_method_2_code 81 = .ok (.iconst 3, 1) := by decide +kernel
theorem d129_82 : decode prog_11_method_2_code 82 = .ok (.iadd, 1) := by decide +kernel
theorem d129_83 : decode prog_11_method_2_code 83 = .ok (.iaload, 1) := by decide +kernel
theorem d129_84 : decode prog_11_method_2_code 84 = .ok (.getstatic 43, 3) := by decide +kernel
theorem d129_87 : decode prog_11_method_2_code 87 = .ok (.iload_n 2, 1) := by decide +kernel
theorem d129_88 : decode prog_11_method_2_code 88 = .ok (.iconst 4, 1) := by decide +kernel
theorem d129_89 : decode prog_11_method_2_code 89 = .ok (.iadd, 1) := by decide +kernel
theorem d129_90 : decode prog_11_method_2_code 90 = .ok (.iaload, 1) := by decide +kernel
theorem d129_91 : decode prog_11_method_2_code 91 = .ok (.invokevirtual 52, 3) := by decide +kernel
theorem d129_94 : decode prog_11_method_2_code 94 = .ok (.iinc 2 5, 3) := by decide +kernel
theorem d129_97 : decode prog_11_method_2_code 97 = .ok (.goto (-61), 3) := by decide +kernel
theorem d129_100 : decode prog_11_method_2_code 100 = .ok (.return_, 1) := by decide +kernel
theorem m129 : pm_m 129 = some (⟨"TypeRules$Variables", "reset", "(I)V"⟩, prog_11_method_2_code, 4, none, 6, 1, 7) := rfl
theorem d21_0 : decode prog_4_method_3_code 0 = .ok (.aload_n 0, 1) := by decide +kernel
theorem d21_1 : decode prog_4_method_3_code 1 = .ok (.getfield 27, 3) := by decide +kernel
theorem d21_4 : decode prog_4_method_3_code 4 = .ok (.ireturn, 1) := by decide +kernel
theorem m21 : pm_m 21 = some (⟨"TypeRules$Names", "size", "()I"⟩, prog_4_method_3_code, 1, (some FieldType.int), 1, 0, 2) := rfl
/-! ALL IS FORGOTTEN, in the class -/
theorem cb112r {d : Nat} {σ : pm_S} {Q : Option Value → pm_S → Prop} {c : Nat} {x rr : Int32} (hc : σ.1 5 8 = nI c) (hc8 : c < 418) (hx : 0 ≤ x.toInt ∧ x.toInt < 4171) (hQ : ∀ τ, cg_B σ τ c x 2 rr → Q none τ) : pm_call pm_Y0 (d + 1) 112 [.ref 5, .int 2, .int x, .int rr] σ Q := by
  refine sp112 (c := c) hc hc8 hx (fun τ g => ?_)
  refine wq_l 95 d112_94 rfl rfl rfl rfl ?_
  refine wq_k 96 3 d112_95 (by decide) rfl ?_
  refine wq_b 115 99 d112_96 rfl (by decide) rfl (fun c96 => ?_) (fun c96 => absurd (by decide) c96)
  refine wq_l 116 d112_115 rfl rfl rfl rfl ?_
  refine wq_k 117 1 d112_116 (by decide) rfl ?_
  refine wq_b 126 120 d112_117 rfl (by decide) rfl (fun c117 => ?_) (fun c117 => absurd (by decide) c117)
  refine wq_rv d112_126 ?_
  exact hQ _ g
theorem sp113 {d : Nat} {σ : pm_S} {Q : Option Value → pm_S → Prop} {c : Nat} {n : Int32} (hc : σ.1 5 8 = nI (c + 1)) (hc8 : c < 418) (hQ : Q (some (.int (σ.2.2 29 c))) (pm_pr σ 29 (upd (σ.2.2 29) c (σ.2.2 29 c + n)))) : pm_call pm_Y0 (d + 1) 113 [.ref 5, .int n] σ Q := by
  have e : nI (c + 1) - 1 = nI c := nI_pred _
  have ei := nI_toInt (n := c) (by omega)
  have ec := nI_clamp (n := c) (by omega)
  refine wq_m m113 (Nat.le_of_ble_eq_true rfl) (by decide) rfl ?_
  refine wq_l 1 d113_0 rfl rfl rfl rfl ?_
  refine wq_gf (ci := 5) (j := 8) (f := 0) (v := .int (nI (c + 1))) 4 d113_1 rfl rfl rfl (congrArg Value.int (hc)) rfl ?_
  refine wq_k 5 1 d113_4 (by decide) rfl ?_
  refine wq_a 6 d113_5 rfl rfl ?_
  rw [e]
  refine wq_s 7 d113_6 rfl rfl (Nat.le_of_ble_eq_true rfl) rfl rfl ?_
  refine wq_l 8 d113_7 rfl rfl rfl rfl ?_
  refine wq_b 13 11 d113_8 rfl (by decide) rfl (fun c8 => ?_) (fun c8 => absurd (by rw [i_le, ei]; show (0 : Int) ≤ _; omega) c8)
  refine wq_l 14 d113_13 rfl rfl rfl rfl ?_
  refine wq_gr (ci := 5) (j := 3) (q := 29) 17 d113_14 rfl rfl rfl rfl ?_
  refine wq_l 18 d113_17 rfl rfl rfl rfl ?_
  refine wq_al 19 d113_18 rfl rfl rfl (vp_in_iff.mpr (by rw [ei]; omega)) ?_
  rw [ec]
  refine wq_s 20 d113_19 rfl rfl (Nat.le_of_ble_eq_true rfl) rfl rfl ?_
  refine wq_l 21 d113_20 rfl rfl rfl rfl ?_
  refine wq_gr (ci := 5) (j := 3) (q := 29) 24 d113_21 rfl rfl rfl rfl ?_
  refine wq_l 25 d113_24 rfl rfl rfl rfl ?_
  refine wq_l 26 d113_25 rfl rfl rfl rfl ?_
  refine wq_l 27 d113_26 rfl rfl rfl rfl ?_
  refine wq_a 28 d113_27 rfl rfl ?_
  refine wq_as 29 d113_28 rfl rfl rfl (vp_in_iff.mpr (by rw [ei]; omega)) ?_
  rw [ec]
  refine wq_l 30 d113_29 rfl rfl rfl rfl ?_
  refine wq_ri d113_30 (rfl) ?_
  exact hQ
theorem cb111a {d : Nat} {σ : pm_S} {Q : Option Value → pm_S → Prop} {NN : Nat} (hN : NN ≤ 4171) (hQ : ∀ τ, τ.1 = σ.1 → τ.2.1 = σ.2.1 → (∀ k, k ≠ 27 → τ.2.2 k = σ.2.2 k) → (∀ j, j < NN → τ.2.2 27 j = -1) → pm_WP pm_Y0 (pm_call pm_Y0 (d)) 5 prog_2_method_3_code none Q 29 [.ref 5, .int (nI NN), .int (nI NN)] [] τ) : ∀ (n i : Nat) (τ : pm_S), i + n = NN → τ.1 = σ.1 → τ.2.1 = σ.2.1 → (∀ k, k ≠ 27 → τ.2.2 k = σ.2.2 k) → (∀ j, j < i → τ.2.2 27 j = -1) → pm_WP pm_Y0 (pm_call pm_Y0 (d)) 5 prog_2_method_3_code none Q 2 [.ref 5, .int (nI NN), .int (nI i)] [] τ := by
  have eN := nI_toInt (n := NN) (by omega)
  intro n
  induction n with
  | zero =>
    intro i τ hi h1 h2 h3 h4
    have : i = NN := by omega
    subst this
    refine wq_l 3 d111_2 rfl rfl rfl rfl ?_
    refine wq_l 4 d111_3 rfl rfl rfl rfl ?_
    refine wq_b 29 7 d111_4 rfl (by decide) rfl (fun c4 => ?_) (fun c4 => absurd (by rw [i_le]; omega) c4)
    exact hQ τ h1 h2 h3 h4
  | succ n ih =>
    intro i τ hi h1 h2 h3 h4
    have ei := nI_toInt (n := i) (by omega)
    have ec := nI_clamp (n := i) (by omega)
    refine wq_l 3 d111_2 rfl rfl rfl rfl ?_
    refine wq_l 4 d111_3 rfl rfl rfl rfl ?_
    refine wq_b 29 7 d111_4 rfl (by decide) rfl (fun c4 => absurd c4 (by rw [i_le, eN, ei]; omega)) (fun c4 => ?_)
    refine wq_l 8 d111_7 rfl rfl rfl rfl ?_
    refine wq_l 9 d111_8 rfl rfl rfl rfl ?_
    refine wq_gr (ci := 5) (j := 1) (q := 27) 12 d111_9 rfl rfl rfl rfl ?_
    refine wq_len 13 d111_12 rfl rfl rfl ?_
    refine wq_b 29 16 d111_13 rfl (by decide) rfl (fun c13 => absurd c13 (by rw [i_le, ei]; show ¬ (4171 : Int) ≤ _; omega)) (fun c13 => ?_)
    refine wq_l 17 d111_16 rfl rfl rfl rfl ?_
    refine wq_gr (ci := 5) (j := 1) (q := 27) 20 d111_17 rfl rfl rfl rfl ?_
    refine wq_l 21 d111_20 rfl rfl rfl rfl ?_
    refine wq_k 22 (-1) d111_21 (by decide) rfl ?_
    refine wq_as 23 d111_22 rfl rfl rfl (vp_in_iff.mpr (by rw [ei]; omega)) ?_
    rw [ec]
    refine wq_i 26 d111_23 rfl rfl rfl ?_
    refine wq_g 2 d111_26 (by decide) ?_
    rw [show nI i + Int32.ofInt 1 = nI (i + 1) from nI_1 i]
    refine ih (i + 1) _ (by omega) h1 h2 (fun k hk => (pm_rne hk).trans (h3 k hk)) (fun j hj => ?_)
    rw [pm_req, upd_if]
    by_cases w : j = i
    · rw [if_pos w]; rfl
    · rw [if_neg w]; exact h4 j (by omega)
theorem cb129a {d : Nat} {σ : pm_S} {Q : Option Value → pm_S → Prop} {NN : Nat} {w3 : Value} (hN : NN ≤ 4171) (hQ : ∀ τ, τ.1 = σ.1 → τ.2.1 = σ.2.1 → (∀ k, k ≠ 34 → τ.2.2 k = σ.2.2 k) → (∀ j, j < NN → τ.2.2 34 j = -1) → pm_WP pm_Y0 (pm_call pm_Y0 (d)) 6 prog_11_method_2_code none Q 29 [.ref 6, .int (nI NN), .int (nI NN), w3] [] τ) : ∀ (n i : Nat) (τ : pm_S), i + n = NN → τ.1 = σ.1 → τ.2.1 = σ.2.1 → (∀ k, k ≠ 34 → τ.2.2 k = σ.2.2 k) → (∀ j, j < i → τ.2.2 34 j = -1) → pm_WP pm_Y0 (pm_call pm_Y0 (d)) 6 prog_11_method_2_code none Q 2 [.ref 6, .int (nI NN), .int (nI i), w3] [] τ := by
  have eN := nI_toInt (n := NN) (by omega)
  intro n
  induction n with
  | zero =>
    intro i τ hi h1 h2 h3 h4
    have : i = NN := by omega
    subst this
    refine wq_l 3 d129_2 rfl rfl rfl rfl ?_
    refine wq_l 4 d129_3 rfl rfl rfl rfl ?_
    refine wq_b 29 7 d129_4 rfl (by decide) rfl (fun c4 => ?_) (fun c4 => absurd (by rw [i_le]; omega) c4)
    exact hQ τ h1 h2 h3 h4
  | succ n ih =>
    intro i τ hi h1 h2 h3 h4
    have ei := nI_toInt (n := i) (by omega)
    have ec := nI_clamp (n := i) (by omega)
    refine wq_l 3 d129_2 rfl rfl rfl rfl ?_
    refine wq_l 4 d129_3 rfl rfl rfl rfl ?_
    refine wq_b 29 7 d129_4 rfl (by decide) rfl (fun c4 => absurd c4 (by rw [i_le, eN, ei]; omega)) (fun c4 => ?_)
    refine wq_l 8 d129_7 rfl rfl rfl rfl ?_
    refine wq_l 9 d129_8 rfl rfl rfl rfl ?_
    refine wq_gr (ci := 6) (j := 0) (q := 34) 12 d129_9 rfl rfl rfl rfl ?_
    refine wq_len 13 d129_12 rfl rfl rfl ?_
    refine wq_b 29 16 d129_13 rfl (by decide) rfl (fun c13 => absurd c13 (by rw [i_le, ei]; show ¬ (4171 : Int) ≤ _; omega)) (fun c13 => ?_)
    refine wq_l 17 d129_16 rfl rfl rfl rfl ?_
    refine wq_gr (ci := 6) (j := 0) (q := 34) 20 d129_17 rfl rfl rfl rfl ?_
    refine wq_l 21 d129_20 rfl rfl rfl rfl ?_
    refine wq_k 22 (-1) d129_21 (by decide) rfl ?_
    refine wq_as 23 d129_22 rfl rfl rfl (vp_in_iff.mpr (by rw [ei]; omega)) ?_
    rw [ec]
    refine wq_i 26 d129_23 rfl rfl rfl ?_
    refine wq_g 2 d129_26 (by decide) ?_
    rw [show nI i + Int32.ofInt 1 = nI (i + 1) from nI_1 i]
    refine ih (i + 1) _ (by omega) h1 h2 (fun k hk => (pm_rne hk).trans (h3 k hk)) (fun j hj => ?_)
    rw [pm_req, upd_if]
    by_cases w : j = i
    · rw [if_pos w]; rfl
    · rw [if_neg w]; exact h4 j (by omega)
def cs_I (NN i : Nat) (τ : pm_S) : Prop := τ.1 5 8 = nI i ∧ τ.1 5 10 = 0 ∧ (∀ s, s < i → τ.2.2 28 s = 2 ∧ τ.2.2 29 s = nI (rl_ssz s)) ∧ ∀ x, x < NN → τ.2.2 27 x = (if 41 ≤ x ∧ x < 41 + i then nI (x - 41) else -1)
theorem cs_cb {l : List pg_N} {NN : Nat} {τ : pm_S} (hN : NN ≤ 4171) (h : cs_I NN 9 τ) : cb_I l NN [] τ := by
  obtain ⟨h1, h2, h3, h4⟩ := h
  refine ⟨by decide, h1, h2, h3, fun b y hb => by unfold rl_blk at hb; simp at hb, fun x hx => ?_⟩
  rw [h4 x hx]
  unfold cb_nm rl_sb
  rw [nI_toInt (by omega), nI_clamp (by omega)]
  by_cases w : 41 ≤ x ∧ x < 41 + 9
  · rw [if_pos w, if_pos (by omega)]; rfl
  · rw [if_neg w, if_neg (by omega)]; rfl
theorem cs_sz : ∀ i, i < 9 → ([6, 6, 6, 6, 6, 3, 3, 3, 3] : List Int32).getD i 0 = nI (rl_ssz i) := by decide +kernel
theorem cb111b {d : Nat} {σ : pm_S} {Q : Option Value → pm_S → Prop} {NN : Nat} (hN : NN ≤ 4171) (hQ : ∀ τ, cs_I NN 9 τ → cb_U σ τ → pm_WP pm_Y0 (pm_call pm_Y0 (d + 1)) 5 prog_2_method_3_code none Q 78 [.ref 5, .int (nI NN), .int (nI 9)] [] τ) : ∀ (n i : Nat) (τ : pm_S), i + n = 9 → cs_I NN i τ → cb_U σ τ → pm_WP pm_Y0 (pm_call pm_Y0 (d + 1)) 5 prog_2_method_3_code none Q 46 [.ref 5, .int (nI NN), .int (nI i)] [] τ := by
  intro n
  induction n with
  | zero =>
    intro i τ hi h u
    have : i = 9 := by omega
    subst this
    refine wq_l 47 d111_46 rfl rfl rfl rfl ?_
    refine wq_k 49 9 d111_47 (by decide) rfl ?_
    refine wq_b 78 52 d111_49 rfl (by decide) rfl (fun c49 => ?_) (fun c49 => absurd (by decide) c49)
    exact hQ τ h u
  | succ n ih =>
    intro i τ hi h u
    have ei := nI_toInt (n := i) (by omega)
    have ec := nI_clamp (n := i) (by omega)
    have e41 : (41 : Int32) + nI i = nI (41 + i) := nI_add 41 i
    have e4 := nI_toInt (n := 41 + i) (by omega)
    obtain ⟨h1, h2, h3, h4⟩ := h
    refine wq_l 47 d111_46 rfl rfl rfl rfl ?_
    refine wq_k 49 9 d111_47 (by decide) rfl ?_
    refine wq_b 78 52 d111_49 rfl (by decide) rfl (fun c49 => absurd c49 (by rw [i_le, ei]; show ¬ (9 : Int) ≤ _; omega)) (fun c49 => ?_)
    refine wq_l 53 d111_52 rfl rfl rfl rfl ?_
    refine wq_k 54 2 d111_53 (by decide) rfl ?_
    refine wq_k 56 41 d111_54 (by decide) rfl ?_
    refine wq_l 57 d111_56 rfl rfl rfl rfl ?_
    refine wq_a 58 d111_57 rfl rfl ?_
    rw [e41]
    refine wq_k 59 (-1) d111_58 (by decide) rfl ?_
    refine wq_v 62 [_, _, _] d111_59 rfl rfl m112 rfl rfl (Nat.le_of_ble_eq_true rfl) rfl (cb112r (c := i) h1 (by omega) (by rw [e4]; omega) (fun τ1 g => ?_))
    refine wq_l 63 d111_62 rfl rfl rfl rfl ?_
    refine wq_st 66 d111_63 rfl rfl ?_
    refine wq_l 67 d111_66 rfl rfl rfl rfl ?_
    refine wq_sl 68 d111_67 rfl rfl (vp_in_iff.mpr (by rw [ei]; show _ ∧ _ < (9 : Int); omega)) rfl ?_
    rw [ec, cs_sz i (by omega)]
    refine wq_v 71 [_] d111_68 rfl rfl m113 rfl rfl (Nat.le_of_ble_eq_true rfl) rfl (sp113 (c := i) g.2.1 (by omega) ?_)
    refine wq_a 72 d111_71 rfl rfl ?_
    refine wq_i 75 d111_72 rfl rfl rfl ?_
    refine wq_g 46 d111_75 (by decide) ?_
    rw [show nI i + Int32.ofInt 1 = nI (i + 1) from nI_1 i]
    obtain ⟨g1, g2, g3, g4, g5, g6, g7, g8, g9, g10⟩ := g
    refine ih (i + 1) _ (by omega) ⟨g2, g3.trans h2, fun s hs => ?_, fun x hx => ?_⟩ (cb_Upr (cb_Ut u g1) (by decide))
    · by_cases w : s = i
      · refine ⟨?_, ?_⟩
        · rw [pm_rne (by decide), g5, upd_if, if_pos w]
        · rw [pm_req, upd_if, if_pos w, g6, upd_if, if_pos rfl, w]
          exact Int32.zero_add _
      · refine ⟨?_, ?_⟩
        · rw [pm_rne (by decide), g5, upd_if, if_neg w]; exact (h3 s (by omega)).1
        · rw [pm_req, upd_if, if_neg w, g6, upd_if, if_neg w]; exact (h3 s (by omega)).2
    · rw [pm_rne (by decide), g4, upd_if, nI_clamp (by omega)]
      by_cases w : x = 41 + i
      · rw [if_pos w, if_pos (by omega), w, show 41 + i - 41 = i by omega]
      · rw [if_neg w, h4 x hx]
        by_cases w2 : 41 ≤ x ∧ x < 41 + i
        · rw [if_pos w2, if_pos (by omega)]
        · rw [if_neg w2, if_neg (by omega)]
def cpins : List Int32 := pm_sa.getD 2 []
theorem cp_r : ∀ r, r < 32 → cpins.getD (5 * r) 0 = nI (rl_pins.getD r (0, 0, 0, 0, 0)).1 ∧ 60 + cpins.getD (5 * r + 1) 0 = (rl_pins.getD r (0, 0, 0, 0, 0)).2.1 ∧ cpins.getD (5 * r + 2) 0 = nI (rl_pins.getD r (0, 0, 0, 0, 0)).2.2.1 ∧ cpins.getD (5 * r + 3) 0 = (rl_pins.getD r (0, 0, 0, 0, 0)).2.2.2.1 ∧ cpins.getD (5 * r + 4) 0 = nI (rl_pins.getD r (0, 0, 0, 0, 0)).2.2.2.2 := by decide +kernel
theorem cp_b : ∀ r, r < 32 → 60 ≤ (rl_pins.getD r (0, 0, 0, 0, 0)).2.1.toInt ∧ (rl_pins.getD r (0, 0, 0, 0, 0)).2.1.toInt < 75 ∧ (rl_pins.getD r (0, 0, 0, 0, 0)).2.2.1 ≤ 2 := by decide +kernel
theorem cp_t : ∀ r, r < 32 → cv_P.take (r + 1) = cv_P.take r ++ [((rl_pins.getD r (0, 0, 0, 0, 0)).1, ((rl_pins.getD r (0, 0, 0, 0, 0)).2.1, 0, (rl_pins.getD r (0, 0, 0, 0, 0)).2.2.2.1, (rl_pins.getD r (0, 0, 0, 0, 0)).2.2.1, -1, (rl_pins.getD r (0, 0, 0, 0, 0)).2.2.2.2))] := fun r hr => by
  have hr' : r < rl_pins.length := hr
  have e : rl_pins[r]? = some (rl_pins.getD r (0, 0, 0, 0, 0)) := by
    rw [List.getD_eq_getElem?_getD, List.getElem?_eq_getElem hr']; rfl
  rw [List.take_succ]
  congr 1
  unfold cv_P
  rw [List.getElem?_map, e]
  rfl
theorem cp_l : Int32.ofNat cpins.length = 160 := by decide +kernel
theorem cb129b {d : Nat} {σ : pm_S} {Q : Option Value → pm_S → Prop} {NN : Nat} (hN : NN ≤ 4171) (hN75 : 75 ≤ NN) (hQ : ∀ τ, cv_I NN cv_P τ → cv_U σ τ → Q none τ) : ∀ (n r : Nat) (τ : pm_S) (w3 : Value), r + n = 32 → cv_I NN (cv_P.take r) τ → cv_U σ τ → pm_WP pm_Y0 (pm_call pm_Y0 (d + 2)) 6 prog_11_method_2_code none Q 36 [.ref 6, .int (nI NN), .int (nI (5 * r)), w3] [] τ := by
  intro n
  induction n with
  | zero =>
    intro r τ w3 hr h u
    have : r = 32 := by omega
    subst this
    refine wq_l 37 d129_36 rfl rfl rfl rfl ?_
    refine wq_k 38 5 d129_37 (by decide) rfl ?_
    refine wq_a 39 d129_38 rfl rfl ?_
    refine wq_st 42 d129_39 rfl rfl ?_
    refine wq_sn (f := cpins) 43 d129_42 rfl cp_l rfl ?_
    refine wq_b 100 46 d129_43 rfl (by decide) rfl (fun c43 => ?_) (fun c43 => absurd (by decide) c43)
    refine wq_rv d129_100 ?_
    exact hQ τ h u
  | succ n ih =>
    intro r τ w3 hr h u
    have hr2 : r < 32 := by omega
    have er := nI_toInt (n := 5 * r) (by omega)
    have er5 := nI_toInt (n := 5 * r + 5) (by omega)
    have lr : (cv_P.take r).length = r := by rw [List.length_take]; exact Nat.min_eq_left (Nat.le_of_lt hr2)
    obtain ⟨p1, p2, p3, p4, p5⟩ := cp_r r hr2
    obtain ⟨b1, b2, b3⟩ := cp_b r hr2
    have et := cp_t r hr2
    generalize rl_pins.getD r (0, 0, 0, 0, 0) = q at *
    have ad : ∀ k : Nat, nI (5 * r) + nI k = nI (5 * r + k) := fun k => nI_add _ _
    have ec : ∀ k : Nat, k < 5 → (nI (5 * r + k)).toNatClampNeg = 5 * r + k := fun k hk => nI_clamp (by omega)
    have bd : ∀ k : Nat, k < 5 → vp_in (nI (5 * r + k)) 160 := fun k hk => vp_in_iff.mpr (by rw [nI_toInt (by omega)]; omega)
    refine wq_l 37 d129_36 rfl rfl rfl rfl ?_
    refine wq_k 38 5 d129_37 (by decide) rfl ?_
    refine wq_a 39 d129_38 rfl rfl ?_
    rw [show nI (5 * r) + 5 = nI (5 * r + 5) from ad 5]
    refine wq_st 42 d129_39 rfl rfl ?_
    refine wq_sn (f := cpins) 43 d129_42 rfl cp_l rfl ?_
    refine wq_b 100 46 d129_43 rfl (by decide) rfl (fun c43 => absurd c43 (by rw [i_lt, er5]; show ¬ (160 : Int) < _; omega)) (fun c43 => ?_)
    refine wq_l 47 d129_46 rfl rfl rfl rfl ?_
    refine wq_st 50 d129_47 rfl rfl ?_
    refine wq_l 51 d129_50 rfl rfl rfl rfl ?_
    refine wq_sl (f := cpins) (v := nI q.1) 52 d129_51 rfl rfl (bd 0 (by decide)) (by rw [show (nI (5 * r)).toNatClampNeg = 5 * r from ec 0 (by decide)]; exact p1) ?_
    refine wq_k 54 60 d129_52 (by decide) rfl ?_
    refine wq_st 57 d129_54 rfl rfl ?_
    refine wq_l 58 d129_57 rfl rfl rfl rfl ?_
    refine wq_k 59 1 d129_58 (by decide) rfl ?_
    refine wq_a 60 d129_59 rfl rfl ?_
    rw [show nI (5 * r) + 1 = nI (5 * r + 1) from ad 1]
    refine wq_sl (f := cpins) (v := cpins.getD (5 * r + 1) 0) 61 d129_60 rfl rfl (bd 1 (by decide)) (by rw [ec 1 (by decide)]) ?_
    refine wq_a 62 d129_61 rfl rfl ?_
    rw [p2]
    refine wq_st 65 d129_62 rfl rfl ?_
    refine wq_l 66 d129_65 rfl rfl rfl rfl ?_
    refine wq_k 67 2 d129_66 (by decide) rfl ?_
    refine wq_a 68 d129_67 rfl rfl ?_
    rw [show nI (5 * r) + 2 = nI (5 * r + 2) from ad 2]
    refine wq_sl (f := cpins) (v := nI q.2.2.1) 69 d129_68 rfl rfl (bd 2 (by decide)) (by rw [ec 2 (by decide)]; exact p3) ?_
    refine wq_v 72 [_, _, _] d129_69 rfl rfl m130 rfl rfl (Nat.le_of_ble_eq_true rfl) rfl (cf130 hN h (by rw [lr]; omega) (by omega) b3 (fun τ1 h1 u1 => ?_))
    rw [lr]
    refine wq_s 73 d129_72 rfl rfl (Nat.le_of_ble_eq_true rfl) rfl rfl ?_
    refine wq_l 74 d129_73 rfl rfl rfl rfl ?_
    refine wq_l 75 d129_74 rfl rfl rfl rfl ?_
    refine wq_k 77 8 d129_75 (by decide) rfl ?_
    refine wq_st 80 d129_77 rfl rfl ?_
    refine wq_l 81 d129_80 rfl rfl rfl rfl ?_
    refine wq_k 82 3 d129_81 (by decide) rfl ?_
    refine wq_a 83 d129_82 rfl rfl ?_
    rw [show nI (5 * r) + 3 = nI (5 * r + 3) from ad 3]
    refine wq_sl (f := cpins) (v := q.2.2.2.1) 84 d129_83 rfl rfl (bd 3 (by decide)) (by rw [ec 3 (by decide)]; exact p4) ?_
    refine wq_st 87 d129_84 rfl rfl ?_
    refine wq_l 88 d129_87 rfl rfl rfl rfl ?_
    refine wq_k 89 4 d129_88 (by decide) rfl ?_
    refine wq_a 90 d129_89 rfl rfl ?_
    rw [show nI (5 * r) + 4 = nI (5 * r + 4) from ad 4]
    refine wq_sl (f := cpins) (v := nI q.2.2.2.2) 91 d129_90 rfl rfl (bd 4 (by decide)) (by rw [ec 4 (by decide)]; exact p5) ?_
    refine wq_v 94 [_, _, _, _] d129_91 rfl rfl m131 rfl rfl (Nat.le_of_ble_eq_true rfl) rfl (sp131 (i := r) (by omega) ?_)
    refine wq_i 97 d129_94 rfl rfl rfl ?_
    refine wq_g 36 d129_97 (by decide) ?_
    rw [show nI (5 * r) + Int32.ofInt 5 = nI (5 * (r + 1)) from ad 5]
    refine ih (r + 1) _ _ (by omega) ?_ (cv_Upr (cv_Upr (cv_Upr (cv_Ut u u1) (by decide)) (by decide)) (by decide))
    rw [et]
    have hv : (cv_P.take r ++ [(q.1, (q.2.1, 3, 0, q.2.2.1, -1, 0))])[r]? = some (q.1, (q.2.1, 3, 0, q.2.2.1, -1, 0)) := by
      rw [List.getElem?_append_right (by omega), lr, Nat.sub_self]; rfl
    have ca := (h1.2.2.1 r _ _ hv).2.1
    have := cv_re (v' := (q.2.1, 0, q.2.2.2.1, q.2.2.1, -1, q.2.2.2.2)) (τ := pm_pr (pm_pr (pm_pr τ1 38 (upd (τ1.2.2 38) r 8)) 39 (upd (τ1.2.2 39) r q.2.2.2.1)) 40 (upd (τ1.2.2 40) r (nI q.2.2.2.2))) h1 hv rfl rfl ⟨rfl, rfl, rfl, rfl⟩ (fun j hj => ⟨?_, ?_, ?_, rfl⟩) ?_
    · rw [List.set_append_right _ _ (by omega), lr, Nat.sub_self, List.set_cons_zero] at this
      exact this
    · show upd _ _ _ j = _; rw [upd_if, if_neg hj]
    · show upd _ _ _ j = _; rw [upd_if, if_neg hj]
    · show upd _ _ _ j = _; rw [upd_if, if_neg hj]
    · refine ⟨⟨b3, Nat.zero_le 3⟩, ca.2.1, ca.2.2.1.trans ?_, fun _ => ⟨?_, ?_, ?_⟩⟩
      · congr 1
        unfold rl_ro
        by_cases w : q.2.2.1 = 1
        · rw [decide_eq_true (Or.inl w), decide_eq_true (Or.inl w)]
        · rw [decide_eq_false (fun z => z.elim w (fun z => z.1 rfl)), decide_eq_false (fun z => z.elim w (fun z => z.2.1 rfl))]
      · show upd _ _ _ r = _; rw [upd_if, if_pos rfl]; rfl
      · show upd _ _ _ r = _; rw [upd_if, if_pos rfl]
      · show upd _ _ _ r = _; rw [upd_if, if_pos rfl]
theorem cb129 {d : Nat} {σ : pm_S} {Q : Option Value → pm_S → Prop} {NN : Nat} (hN : NN ≤ 4171) (hN75 : 75 ≤ NN) (hQ : ∀ τ, cv_I NN cv_P τ → cv_U σ τ → Q none τ) : pm_call pm_Y0 (d + 3) 129 [.ref 6, .int (nI NN)] σ Q := by
  have go : ∀ (τ : pm_S) (w3 : Value), τ.1 = σ.1 → τ.2.1 = σ.2.1 → (∀ k, k ≠ 34 → τ.2.2 k = σ.2.2 k) → (∀ j, j < NN → τ.2.2 34 j = -1) → pm_WP pm_Y0 (pm_call pm_Y0 (d + 2)) 6 prog_11_method_2_code none Q 29 [.ref 6, .int (nI NN), .int (nI NN), w3] [] τ := by
    intro τ w3 h1 h2 h3 h4
    refine wq_l 30 d129_29 rfl rfl rfl rfl ?_
    refine wq_k 31 0 d129_30 (by decide) rfl ?_
    refine wq_pf (ci := 6) (j := 8) 34 d129_31 rfl rfl rfl ⟨rfl, rfl⟩ rfl ?_
    refine wq_k 35 0 d129_34 (by decide) rfl ?_
    refine wq_s 36 d129_35 rfl rfl (Nat.le_of_ble_eq_true rfl) rfl rfl ?_
    refine cb129b hN hN75 hQ 32 0 _ _ (by omega) ?_ ?_
    · refine ⟨by decide, rfl, fun i o v hv => ?_, fun x hx => ?_⟩
      · rw [List.take_zero] at hv; simp at hv
      · exact h4 x hx
    · refine cv_Upi ⟨fun a b => Or.inr (by rw [h1]), h2, fun k => ?_⟩
      by_cases w : k = 34
      · left; omega
      · exact Or.inr (h3 k w)
  refine wq_m m129 (Nat.le_of_ble_eq_true rfl) (by decide) rfl ?_
  refine wq_k 1 0 d129_0 (by decide) rfl ?_
  refine wq_s 2 d129_1 rfl rfl (Nat.le_of_ble_eq_true rfl) rfl rfl ?_
  exact cb129a hN (fun τ a b c e => go τ _ a b c e) NN 0 σ (by omega) rfl rfl (fun _ _ => rfl) (fun j hj => absurd hj (Nat.not_lt_zero _))
theorem cb111 {d : Nat} {σ : pm_S} {Q : Option Value → pm_S → Prop} {l : List pg_N} {NN : Nat} (hN : NN ≤ 4171) (hN75 : 75 ≤ NN) (hQ : ∀ τ, cb_I l NN [] τ → cv_I NN cv_P τ → (∀ a b, (a = 5 ∧ 8 ≤ b) ∨ (a = 6 ∧ b = 8) ∨ τ.1 a b = σ.1 a b) → τ.2.1 = σ.2.1 → (∀ k, (27 ≤ k ∧ k ≤ 41) ∨ τ.2.2 k = σ.2.2 k) → Q none τ) : pm_call pm_Y0 (d + 4) 111 [.ref 5, .int (nI NN)] σ Q := by
  have g2 : ∀ τ, cs_I NN 9 τ → cb_U σ τ → pm_WP pm_Y0 (pm_call pm_Y0 (d + 3)) 5 prog_2_method_3_code none Q 78 [.ref 5, .int (nI NN), .int (nI 9)] [] τ := by
    intro τ h u
    refine wq_l 79 d111_78 rfl rfl rfl rfl ?_
    refine wq_gr (ci := 5) (j := 0) (q := 6) 82 d111_79 rfl rfl rfl rfl ?_
    refine wq_l 83 d111_82 rfl rfl rfl rfl ?_
    refine wq_v 86 [_] d111_83 rfl rfl m129 rfl rfl (Nat.le_of_ble_eq_true rfl) rfl (cb129 hN hN75 (fun τ1 h1 u1 => ?_))
    refine wq_rv d111_86 ?_
    refine hQ τ1 (cv_Ub (cs_cb hN h) u1) h1 (fun a b => ?_) (u1.2.1.trans u.2.1) (fun k => ?_)
    · rcases u1.1 a b with w | w
      · exact Or.inr (Or.inl w)
      · rcases u.1 a b with v | v
        · exact Or.inl v
        · exact Or.inr (Or.inr (w.trans v))
    · rcases u1.2.2 k with w | w
      · left; omega
      · rcases u.2.2 k with v | v
        · left; omega
        · exact Or.inr (w.trans v)
  have g1 : ∀ τ : pm_S, τ.1 = σ.1 → τ.2.1 = σ.2.1 → (∀ k, k ≠ 27 → τ.2.2 k = σ.2.2 k) → (∀ j, j < NN → τ.2.2 27 j = -1) → pm_WP pm_Y0 (pm_call pm_Y0 (d + 3)) 5 prog_2_method_3_code none Q 29 [.ref 5, .int (nI NN), .int (nI NN)] [] τ := by
    intro τ h1 h2 h3 h4
    refine wq_l 30 d111_29 rfl rfl rfl rfl ?_
    refine wq_k 31 0 d111_30 (by decide) rfl ?_
    refine wq_pf (ci := 5) (j := 8) 34 d111_31 rfl rfl rfl ⟨rfl, rfl⟩ rfl ?_
    refine wq_l 35 d111_34 rfl rfl rfl rfl ?_
    refine wq_k 36 0 d111_35 (by decide) rfl ?_
    refine wq_pf (ci := 5) (j := 9) 39 d111_36 rfl rfl rfl ⟨rfl, rfl⟩ rfl ?_
    refine wq_l 40 d111_39 rfl rfl rfl rfl ?_
    refine wq_k 41 0 d111_40 (by decide) rfl ?_
    refine wq_pf (ci := 5) (j := 10) 44 d111_41 rfl rfl rfl (⟨by decide, by decide⟩) rfl ?_
    refine wq_k 45 0 d111_44 (by decide) rfl ?_
    refine wq_s 46 d111_45 rfl rfl (Nat.le_of_ble_eq_true rfl) rfl rfl ?_
    refine cb111b hN g2 9 0 _ (by omega) ⟨rfl, rfl, fun s hs => absurd hs (Nat.not_lt_zero _), fun x hx => ?_⟩ ?_
    · rw [if_neg (by omega)]; exact h4 x hx
    · refine cb_Upi (cb_Upi (cb_Upi ⟨fun a b => Or.inr (by rw [h1]), h2, fun k => ?_⟩ (by decide)) (by decide)) (by decide)
      by_cases w : k = 27
      · left; omega
      · exact Or.inr (h3 k w)
  refine wq_m m111 (Nat.le_of_ble_eq_true rfl) (by decide) rfl ?_
  refine wq_k 1 0 d111_0 (by decide) rfl ?_
  refine wq_s 2 d111_1 rfl rfl (Nat.le_of_ble_eq_true rfl) rfl rfl ?_
  exact cb111a hN g1 NN 0 σ (by omega) rfl rfl (fun _ _ => rfl) (fun j hj => absurd hj (Nat.not_lt_zero _))
