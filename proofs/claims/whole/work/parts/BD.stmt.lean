theorem d192_0 : decode prog_8_method_14_code 0 = .ok (.iconst 0, 1) := by decide +kernel
theorem d192_1 : decode prog_8_method_14_code 1 = .ok (.istore_n 2, 1) := by decide +kernel
theorem d192_2 : decode prog_8_method_14_code 2 = .ok (.aload_n 0, 1) := by decide +kernel
theorem d192_3 : decode prog_8_method_14_code 3 = .ok (.getfield 9, 3) := by decide +kernel
theorem d192_6 : decode prog_8_method_14_code 6 = .ok (.iload_n 1, 1) := by decide +kernel
theorem d192_7 : decode prog_8_method_14_code 7 = .ok (.invokevirtual 98, 3) := by decide +kernel
theorem d192_10 : decode prog_8_method_14_code 10 = .ok (.istore_n 3, 1) := by decide +kernel
theorem d192_11 : decode prog_8_method_14_code 11 = .ok (.iload_n 1, 1) := by decide +kernel
theorem d192_12 : decode prog_8_method_14_code 12 = .ok (.iconst 1, 1) := by decide +kernel
theorem d192_13 : decode prog_8_method_14_code 13 = .ok (.iadd, 1) := by decide +kernel
theorem d192_14 : decode prog_8_method_14_code 14 = .ok (.istore 4, 2) := by decide +kernel
theorem d192_16 : decode prog_8_method_14_code 16 = .ok (.iload 4, 2) := by decide +kernel
theorem d192_18 : decode prog_8_method_14_code 18 = .ok (.iload_n 3, 1) := by decide +kernel
theorem d192_19 : decode prog_8_method_14_code 19 = .ok (.if_icmp .ge 34, 3) := by decide +kernel
theorem d192_22 : decode prog_8_method_14_code 22 = .ok (.aload_n 0, 1) := by decide +kernel
theorem d192_23 : decode prog_8_method_14_code 23 = .ok (.getfield 9, 3) := by decide +kernel
theorem d192_26 : decode prog_8_method_14_code 26 = .ok (.iload 4, 2) := by decide +kernel
theorem d192_28 : decode prog_8_method_14_code 28 = .ok (.invokevirtual 28, 3) := by decide +kernel
theorem d192_31 : decode prog_8_method_14_code 31 = .ok (.bipush 29, 2) := by decide +kernel
theorem d192_33 : decode prog_8_method_14_code 33 = .ok (.if_icmp .eq 6, 3) := by decide +kernel
theorem d192_36 : decode prog_8_method_14_code 36 = .ok (.iinc 2 1, 3) := by decide +kernel
theorem d192_39 : decode prog_8_method_14_code 39 = .ok (.aload_n 0, 1) := by decide +kernel
theorem d192_40 : decode prog_8_method_14_code 40 = .ok (.getfield 9, 3) := by decide +kernel
theorem d192_43 : decode prog_8_method_14_code 43 = .ok (.iload 4, 2) := by decide +kernel
theorem d192_45 : decode prog_8_method_14_code 45 = .ok (.invokevirtual 98, 3) := by decide +kernel
theorem d192_48 : decode prog_8_method_14_code 48 = .ok (.istore 4, 2) := by decide +kernel
theorem d192_50 : decode prog_8_method_14_code 50 = .ok (.goto (-34), 3) := by decide +kernel
theorem d192_53 : decode prog_8_method_14_code 53 = .ok (.iload_n 2, 1) := by decide +kernel
theorem d192_54 : decode prog_8_method_14_code 54 = .ok (.ireturn, 1) := by decide +kernel
theorem m192 : pm_m 192 = some (⟨"TypeRules$Statements", "cellsIn", "(I)I"⟩, prog_8_method_14_code, 5, (some FieldType.int), 9, 1, 10) := rfl
theorem d191_0 : decode prog_8_method_13_code 0 = .ok (.iconst 0, 1) := by decide +kernel
theorem d191_1 : decode prog_8_method_13_code 1 = .ok (.istore_n 2, 1) := by decide +kernel
theorem d191_2 : decode prog_8_method_13_code 2 = .ok (.iconst (-1), 1) := by decide +kernel
theorem d191_3 : decode prog_8_method_13_code 3 = .ok (.istore_n 3, 1) := by decide +kernel
theorem d191_4 : decode prog_8_method_13_code 4 = .ok (.aload_n 0, 1) := by decide +kernel
theorem d191_5 : decode prog_8_method_13_code 5 = .ok (.getfield 9, 3) := by decide +kernel
theorem d191_8 : decode prog_8_method_13_code 8 = .ok (.iload_n 1, 1) := by decide +kernel
theorem d191_9 : decode prog_8_method_13_code 9 = .ok (.invokevirtual 98, 3) := by decide +kernel
theorem d191_12 : decode prog_8_method_13_code 12 = .ok (.istore 4, 2) := by decide +kernel
theorem d191_14 : decode prog_8_method_13_code 14 = .ok (.iload_n 1, 1) := by decide +kernel
theorem d191_15 : decode prog_8_method_13_code 15 = .ok (.iconst 1, 1) := by decide +kernel
theorem d191_16 : decode prog_8_method_13_code 16 = .ok (.iadd, 1) := by decide +kernel
theorem d191_17 : decode prog_8_method_13_code 17 = .ok (.istore 5, 2) := by decide +kernel
theorem d191_19 : decode prog_8_method_13_code 19 = .ok (.iload 5, 2) := by decide +kernel
theorem d191_21 : decode prog_8_method_13_code 21 = .ok (.iload 4, 2) := by decide +kernel
theorem d191_23 : decode prog_8_method_13_code 23 = .ok (.if_icmp .ge 52, 3) := by decide +kernel
theorem d191_26 : decode prog_8_method_13_code 26 = .ok (.aload_n 0, 1) := by decide +kernel
theorem d191_27 : decode prog_8_method_13_code 27 = .ok (.iload 5, 2) := by decide +kernel
theorem d191_29 : decode prog_8_method_13_code 29 = .ok (.invokevirtual 141, 3) := by decide +kernel
theorem d191_32 : decode prog_8_method_13_code 32 = .ok (.istore 6, 2) := by decide +kernel
theorem d191_34 : decode prog_8_method_13_code 34 = .ok (.iload_n 3, 1) := by decide +kernel
theorem d191_35 : decode prog_8_method_13_code 35 = .ok (.iconst (-1), 1) := by decide +kernel
theorem d191_36 : decode prog_8_method_13_code 36 = .ok (.if_icmp .ne 6, 3) := by decide +kernel
theorem d191_39 : decode prog_8_method_13_code 39 = .ok (.iload 6, 2) := by decide +kernel
theorem d191_41 : decode prog_8_method_13_code 41 = .ok (.istore_n 3, 1) := by decide +kernel
theorem d191_42 : decode prog_8_method_13_code 42 = .ok (.iload 6, 2) := by decide +kernel
theorem d191_44 : decode prog_8_method_13_code 44 = .ok (.iload_n 3, 1) := by decide +kernel
theorem d191_45 : decode prog_8_method_13_code 45 = .ok (.if_icmp .ne 10, 3) := by decide +kernel
theorem d191_48 : decode prog_8_method_13_code 48 = .ok (.iload 6, 2) := by decide +kernel
theorem d191_50 : decode prog_8_method_13_code 50 = .ok (.bipush 12, 2) := by decide +kernel
theorem d191_52 : decode prog_8_method_13_code 52 = .ok (.if_icmp .le 6, 3) := by decide +kernel
theorem d191_55 : decode prog_8_method_13_code 55 = .ok (.bipush 38, 2) := by decide +kernel
theorem d191_57 : decode prog_8_method_13_code 57 = .ok (.ireturn, 1) := by decide +kernel
theorem d191_58 : decode prog_8_method_13_code 58 = .ok (.iinc 2 1, 3) := by decide +kernel
theorem d191_61 : decode prog_8_method_13_code 61 = .ok (.aload_n 0, 1) := by decide +kernel
theorem d191_62 : decode prog_8_method_13_code 62 = .ok (.getfield 9, 3) := by decide +kernel
theorem d191_65 : decode prog_8_method_13_code 65 = .ok (.iload 5, 2) := by decide +kernel
theorem d191_67 : decode prog_8_method_13_code 67 = .ok (.invokevirtual 98, 3) := by decide +kernel
theorem d191_70 : decode prog_8_method_13_code 70 = .ok (.istore 5, 2) := by decide +kernel
theorem d191_72 : decode prog_8_method_13_code 72 = .ok (.goto (-53), 3) := by decide +kernel
theorem d191_75 : decode prog_8_method_13_code 75 = .ok (.iload_n 2, 1) := by decide +kernel
theorem d191_76 : decode prog_8_method_13_code 76 = .ok (.bipush 12, 2) := by decide +kernel
theorem d191_78 : decode prog_8_method_13_code 78 = .ok (.if_icmp .le 8, 3) := by decide +kernel
theorem d191_81 : decode prog_8_method_13_code 81 = .ok (.bipush 38, 2) := by decide +kernel
theorem d191_83 : decode prog_8_method_13_code 83 = .ok (.goto 4, 3) := by decide +kernel
theorem d191_86 : decode prog_8_method_13_code 86 = .ok (.iconst 0, 1) := by decide +kernel
theorem d191_87 : decode prog_8_method_13_code 87 = .ok (.ireturn, 1) := by decide +kernel
theorem m191 : pm_m 191 = some (⟨"TypeRules$Statements", "rungFault", "(I)I"⟩, prog_8_method_13_code, 7, (some FieldType.int), 9, 1, 10) := rfl
/-! STATEMENTS of the class: loops over children -/
theorem cr186l {d : Nat} {l : List pg_N} {NN nx : Nat} {σ0 σ : pm_S} {A : rl_A} {Q : Option Value → pm_S → Prop} {i e : Nat} (hG : lg_G l NN) (h : cr_I l NN σ0 σ nx A) (he : e ≤ l.length) : ∀ (n c : Nat), e - c ≤ n → c ≤ e → rl_cl l c e → Q (some (.int (nI (if ((rl_row l c e).all (fun c => rl_k l c == 11 || decide (A.2.1 c = 0))) = true then 0 else 34)))) σ → pm_WP pm_Y0 (pm_call pm_Y0 (d + 1)) 9 prog_8_method_8_code (some FieldType.int) Q 13 [.ref 9, .int (nI i), .int (nI e), .int (nI c)] [] σ := by
  have hl := h.2.1.1
  have ee := nI_toInt (n := e) (by omega)
  intro n
  induction n with
  | zero =>
    intro c hn hce hc hQ
    have ec := nI_toInt (n := c) (by omega)
    rw [rl_row0 (by omega), List.all_nil, if_pos rfl] at hQ
    refine wq_l 14 d186_13 rfl rfl rfl rfl ?_
    refine wq_l 15 d186_14 rfl rfl rfl rfl ?_
    refine wq_b 57 18 d186_15 rfl (by decide) rfl (fun c15 => ?_) (fun c15 => absurd (by rw [i_le, ee, ec]; omega) c15)
    refine wq_k 58 0 d186_57 (by decide) rfl ?_
    refine wq_ri d186_58 (rfl) ?_
    exact hQ
  | succ n ih =>
    intro c hn hce hc hQ
    have ec := nI_toInt (n := c) (by omega)
    by_cases q : c < e
    · rw [rl_rowu he hc q, List.all_cons] at hQ
      obtain ⟨c1, c2, c3⟩ := rl_clz hc q
      have kc := (lg_V hG (show c < l.length by omega)).1
      refine wq_l 14 d186_13 rfl rfl rfl rfl ?_
      refine wq_l 15 d186_14 rfl rfl rfl rfl ?_
      refine wq_b 57 18 d186_15 rfl (by decide) rfl (fun c15 => absurd c15 (by rw [i_le, ee, ec]; omega)) (fun c15 => ?_)
      refine wq_l 19 d186_18 rfl rfl rfl rfl ?_
      refine wq_gr (ci := 9) (j := 0) (q := 3) 22 d186_19 rfl rfl rfl rfl ?_
      refine wq_l 23 d186_22 rfl rfl rfl rfl ?_
      refine wq_v 26 [_] d186_23 rfl rfl m65 rfl rfl (Nat.le_of_ble_eq_true rfl) rfl (ck65 (cr_S h) (by omega) ?_)
      refine wq_k 28 11 d186_26 (by decide) rfl ?_
      refine wq_b 45 31 d186_28 rfl (by decide) rfl (fun c28 => ?_) (fun c28 => ?_)
      · -- pc 45
        refine wq_l 46 d186_45 rfl rfl rfl rfl ?_
        refine wq_gr (ci := 9) (j := 0) (q := 3) 49 d186_46 rfl rfl rfl rfl ?_
        refine wq_l 50 d186_49 rfl rfl rfl rfl ?_
        refine wq_v 53 [_] d186_50 rfl rfl m63 rfl rfl (Nat.le_of_ble_eq_true rfl) rfl (ck63 (cr_S h) (by omega) ?_)
        refine wq_s 54 d186_53 rfl rfl (Nat.le_of_ble_eq_true rfl) rfl rfl ?_
        refine wq_g 13 d186_54 (by decide) ?_
        rw [(show (rl_k l c == 11) = true from by rw [show rl_k l c = 11 from hp_inj (by omega) (by omega) c28]; rfl), Bool.true_or, Bool.true_and] at hQ
        exact ih (c + rl_z l c) (by omega) c1 c3 hQ
      · -- pc 31
        refine wq_l 32 d186_31 rfl rfl rfl rfl ?_
        refine wq_gr (ci := 9) (j := 0) (q := 3) 35 d186_32 rfl rfl rfl rfl ?_
        refine wq_l 36 d186_35 rfl rfl rfl rfl ?_
        refine wq_v 39 [_] d186_36 rfl rfl m71 rfl rfl (Nat.le_of_ble_eq_true rfl) rfl (ck71 h (by omega) ?_)
        refine wq_b 45 42 d186_39 rfl (by decide) rfl (fun c39 => ?_) (fun c39 => ?_)
        · -- pc 45
          refine wq_l 46 d186_45 rfl rfl rfl rfl ?_
          refine wq_gr (ci := 9) (j := 0) (q := 3) 49 d186_46 rfl rfl rfl rfl ?_
          refine wq_l 50 d186_49 rfl rfl rfl rfl ?_
          refine wq_v 53 [_] d186_50 rfl rfl m63 rfl rfl (Nat.le_of_ble_eq_true rfl) rfl (ck63 (cr_S h) (by omega) ?_)
          refine wq_s 54 d186_53 rfl rfl (Nat.le_of_ble_eq_true rfl) rfl rfl ?_
          refine wq_g 13 d186_54 (by decide) ?_
          rw [decide_eq_true (show A.2.1 c = 0 from c39), Bool.or_true, Bool.true_and] at hQ
          exact ih (c + rl_z l c) (by omega) c1 c3 hQ
        · -- pc 42
          refine wq_k 44 34 d186_42 (by decide) rfl ?_
          refine wq_ri d186_44 (rfl) ?_
          rw [show (rl_k l c == 11) = false from beq_eq_false_iff_ne.mpr (fun z => c28 (congrArg nI z)), decide_eq_false c39, Bool.or_self, Bool.false_and, if_neg (by decide)] at hQ
          exact hQ
    · rw [rl_row0 (by omega), List.all_nil, if_pos rfl] at hQ
      refine wq_l 14 d186_13 rfl rfl rfl rfl ?_
      refine wq_l 15 d186_14 rfl rfl rfl rfl ?_
      refine wq_b 57 18 d186_15 rfl (by decide) rfl (fun c15 => ?_) (fun c15 => absurd (by rw [i_le, ee, ec]; omega) c15)
      refine wq_k 58 0 d186_57 (by decide) rfl ?_
      refine wq_ri d186_58 (rfl) ?_
      exact hQ
theorem cr186 {d : Nat} {l : List pg_N} {NN nx : Nat} {σ0 σ : pm_S} {A : rl_A} {Q : Option Value → pm_S → Prop} {i : Nat} (hG : lg_G l NN) (h : cr_I l NN σ0 σ nx A) (hi : i < l.length) (hQ : ∀ σ' A', cr_I l NN σ0 σ' nx A' → ((((if ((rl_c l i).all (fun c => rl_k l c == 11 || decide (A.2.1 c = 0))) = true then 0 else 34, A) : Nat × rl_A)).1 = 0 → A' = (((if ((rl_c l i).all (fun c => rl_k l c == 11 || decide (A.2.1 c = 0))) = true then 0 else 34, A) : Nat × rl_A)).2) → Q (some (.int (nI (((if ((rl_c l i).all (fun c => rl_k l c == 11 || decide (A.2.1 c = 0))) = true then 0 else 34, A) : Nat × rl_A)).1))) σ') : pm_call pm_Y0 (d + 2) 186 [.ref 9, .int (nI i)] σ Q := by
  obtain ⟨z1, z2, z3⟩ := lg_cl hG hi
  refine wq_m m186 (Nat.le_of_ble_eq_true rfl) (by decide) rfl ?_
  refine wq_l 1 d186_0 rfl rfl rfl rfl ?_
  refine wq_gr (ci := 9) (j := 0) (q := 3) 4 d186_1 rfl rfl rfl rfl ?_
  refine wq_l 5 d186_4 rfl rfl rfl rfl ?_
  refine wq_v 8 [_] d186_5 rfl rfl m63 rfl rfl (Nat.le_of_ble_eq_true rfl) rfl (ck63 (cr_S h) (by omega) ?_)
  refine wq_s 9 d186_8 rfl rfl (Nat.le_of_ble_eq_true rfl) rfl rfl ?_
  refine wq_l 10 d186_9 rfl rfl rfl rfl ?_
  refine wq_k 11 1 d186_10 (by decide) rfl ?_
  refine wq_a 12 d186_11 rfl rfl ?_
  rw [nI_1]
  refine wq_s 13 d186_12 rfl rfl (Nat.le_of_ble_eq_true rfl) rfl rfl ?_
  exact cr186l hG h z1 (i + rl_z l i) (i + 1) (by omega) (by omega) z3 (hQ _ _ h (fun _ => rfl))
theorem cr192l {d : Nat} {l : List pg_N} {NN nx : Nat} {σ0 σ : pm_S} {A : rl_A} {Q : Option Value → pm_S → Prop} {i e : Nat} (hG : lg_G l NN) (h : cr_I l NN σ0 σ nx A) (he : e ≤ l.length) : ∀ (n c k : Nat), e - c ≤ n → k + n < 2 ^ 30 → c ≤ e → rl_cl l c e → Q (some (.int (nI (k + ((rl_row l c e).filter (fun c => rl_k l c != 29)).length)))) σ → pm_WP pm_Y0 (pm_call pm_Y0 (d + 1)) 9 prog_8_method_14_code (some FieldType.int) Q 16 [.ref 9, .int (nI i), .int (nI k), .int (nI e), .int (nI c)] [] σ := by
  have hl := h.2.1.1
  have ee := nI_toInt (n := e) (by omega)
  intro n
  induction n with
  | zero =>
    intro c k hn hk hce hc hQ
    have ec := nI_toInt (n := c) (by omega)
    rw [rl_row0 (by omega), List.filter_nil, List.length_nil, Nat.add_zero] at hQ
    refine wq_l 18 d192_16 rfl rfl rfl rfl ?_
    refine wq_l 19 d192_18 rfl rfl rfl rfl ?_
    refine wq_b 53 22 d192_19 rfl (by decide) rfl (fun c19 => ?_) (fun c19 => absurd (by rw [i_le, ee, ec]; omega) c19)
    refine wq_l 54 d192_53 rfl rfl rfl rfl ?_
    refine wq_ri d192_54 (rfl) ?_
    exact hQ
  | succ n ih =>
    intro c k hn hk hce hc hQ
    have ec := nI_toInt (n := c) (by omega)
    by_cases q : c < e
    · rw [rl_rowu he hc q] at hQ
      obtain ⟨c1, c2, c3⟩ := rl_clz hc q
      have kc := (lg_V hG (show c < l.length by omega)).1
      refine wq_l 18 d192_16 rfl rfl rfl rfl ?_
      refine wq_l 19 d192_18 rfl rfl rfl rfl ?_
      refine wq_b 53 22 d192_19 rfl (by decide) rfl (fun c19 => absurd c19 (by rw [i_le, ee, ec]; omega)) (fun c19 => ?_)
      refine wq_l 23 d192_22 rfl rfl rfl rfl ?_
      refine wq_gr (ci := 9) (j := 0) (q := 3) 26 d192_23 rfl rfl rfl rfl ?_
      refine wq_l 28 d192_26 rfl rfl rfl rfl ?_
      refine wq_v 31 [_] d192_28 rfl rfl m65 rfl rfl (Nat.le_of_ble_eq_true rfl) rfl (ck65 (cr_S h) (by omega) ?_)
      refine wq_k 33 29 d192_31 (by decide) rfl ?_
      refine wq_b 39 36 d192_33 rfl (by decide) rfl (fun c33 => ?_) (fun c33 => ?_)
      · -- pc 39
        refine wq_l 40 d192_39 rfl rfl rfl rfl ?_
        refine wq_gr (ci := 9) (j := 0) (q := 3) 43 d192_40 rfl rfl rfl rfl ?_
        refine wq_l 45 d192_43 rfl rfl rfl rfl ?_
        refine wq_v 48 [_] d192_45 rfl rfl m63 rfl rfl (Nat.le_of_ble_eq_true rfl) rfl (ck63 (cr_S h) (by omega) ?_)
        refine wq_s 50 d192_48 rfl rfl (Nat.le_of_ble_eq_true rfl) rfl rfl ?_
        refine wq_g 16 d192_50 (by decide) ?_
        rw [List.filter_cons_of_neg (by rw [show rl_k l c = 29 from hp_inj (by omega) (by omega) c33]; decide)] at hQ
        exact ih (c + rl_z l c) k (by omega) (by omega) c1 c3 hQ
      · -- pc 36
        refine wq_i 39 d192_36 rfl rfl rfl ?_
        refine wq_l 40 d192_39 rfl rfl rfl rfl ?_
        refine wq_gr (ci := 9) (j := 0) (q := 3) 43 d192_40 rfl rfl rfl rfl ?_
        refine wq_l 45 d192_43 rfl rfl rfl rfl ?_
        refine wq_v 48 [_] d192_45 rfl rfl m63 rfl rfl (Nat.le_of_ble_eq_true rfl) rfl (ck63 (cr_S h) (by omega) ?_)
        refine wq_s 50 d192_48 rfl rfl (Nat.le_of_ble_eq_true rfl) rfl rfl ?_
        refine wq_g 16 d192_50 (by decide) ?_
        rw [List.filter_cons_of_pos (p := fun c => rl_k l c != 29) (bne_iff_ne.mpr (fun z => c33 (congrArg nI z))), List.length_cons, show k + (((rl_row l (c + rl_z l c) e).filter (fun c => rl_k l c != 29)).length + 1) = (k + 1) + ((rl_row l (c + rl_z l c) e).filter (fun c => rl_k l c != 29)).length by omega] at hQ
        rw [show nI k + Int32.ofInt 1 = nI (k + 1) from nI_1 k]
        exact ih (c + rl_z l c) (k + 1) (by omega) (by omega) c1 c3 hQ
    · rw [rl_row0 (by omega), List.filter_nil, List.length_nil, Nat.add_zero] at hQ
      refine wq_l 18 d192_16 rfl rfl rfl rfl ?_
      refine wq_l 19 d192_18 rfl rfl rfl rfl ?_
      refine wq_b 53 22 d192_19 rfl (by decide) rfl (fun c19 => ?_) (fun c19 => absurd (by rw [i_le, ee, ec]; omega) c19)
      refine wq_l 54 d192_53 rfl rfl rfl rfl ?_
      refine wq_ri d192_54 (rfl) ?_
      exact hQ
theorem cr192 {d : Nat} {l : List pg_N} {NN nx : Nat} {σ0 σ : pm_S} {A : rl_A} {Q : Option Value → pm_S → Prop} {i : Nat} (hG : lg_G l NN) (h : cr_I l NN σ0 σ nx A) (hi : i < l.length) (hQ : Q (some (.int (nI (rl_cells l i)))) σ) : pm_call pm_Y0 (d + 2) 192 [.ref 9, .int (nI i)] σ Q := by
  obtain ⟨z1, z2, z3⟩ := lg_cl hG hi
  have hl := h.2.1.1
  refine wq_m m192 (Nat.le_of_ble_eq_true rfl) (by decide) rfl ?_
  refine wq_k 1 0 d192_0 (by decide) rfl ?_
  refine wq_s 2 d192_1 rfl rfl (Nat.le_of_ble_eq_true rfl) rfl rfl ?_
  refine wq_l 3 d192_2 rfl rfl rfl rfl ?_
  refine wq_gr (ci := 9) (j := 0) (q := 3) 6 d192_3 rfl rfl rfl rfl ?_
  refine wq_l 7 d192_6 rfl rfl rfl rfl ?_
  refine wq_v 10 [_] d192_7 rfl rfl m63 rfl rfl (Nat.le_of_ble_eq_true rfl) rfl (ck63 (cr_S h) (by omega) ?_)
  refine wq_s 11 d192_10 rfl rfl (Nat.le_of_ble_eq_true rfl) rfl rfl ?_
  refine wq_l 12 d192_11 rfl rfl rfl rfl ?_
  refine wq_k 13 1 d192_12 (by decide) rfl ?_
  refine wq_a 14 d192_13 rfl rfl ?_
  rw [nI_1]
  refine wq_s 16 d192_14 rfl rfl (Nat.le_of_ble_eq_true rfl) rfl rfl ?_
  refine cr192l hG h z1 (i + rl_z l i) (i + 1) 0 (by omega) (by omega) (by omega) z3 ?_
  rw [Nat.zero_add]
  exact hQ
theorem rl_rowlen {l : List pg_N} : ∀ (f s e : Nat), (rl_ch l f s e).length ≤ f := by
  intro f
  induction f with
  | zero => intro s e; exact Nat.le_refl _
  | succ f ih =>
    intro s e
    rw [rl_chu]
    by_cases q : s < e
    · rw [if_pos q, List.length_cons]; have := ih (s + rl_z l s) e; omega
    · rw [if_neg q, List.length_nil]; omega
theorem rl_cellsl {l : List pg_N} {r : Nat} : rl_cells l r ≤ l.length := by
  unfold rl_cells
  exact Nat.le_trans (List.length_filter_le _ _) (rl_rowlen _ _ _)
theorem cr191l {d : Nat} {l : List pg_N} {NN nx : Nat} {σ0 σ : pm_S} {A : rl_A} {Q : Option Value → pm_S → Prop} {i e : Nat} (hG : lg_G l NN) (h : cr_I l NN σ0 σ nx A) (he : e ≤ l.length) : ∀ (n c k : Nat) (wd : Int32) (w6 : Value), e - c ≤ n → k + n < 2 ^ 30 → c ≤ e → rl_cl l c e → (wd = nI (rl_cells l (i + 1)) ∨ (wd = -1 ∧ c = i + 1)) → Q (some (.int (nI (if k + (rl_row l c e).length ≤ 12 ∧ ((rl_row l c e).all (fun r => decide (rl_cells l r ≤ 12 ∧ rl_cells l r = rl_cells l (i + 1)))) = true then 0 else 38)))) σ → pm_WP pm_Y0 (pm_call pm_Y0 (d + 2)) 9 prog_8_method_13_code (some FieldType.int) Q 19 [.ref 9, .int (nI i), .int (nI k), .int wd, .int (nI e), .int (nI c), w6] [] σ := by
  have hl := h.2.1.1
  have ee := nI_toInt (n := e) (by omega)
  have wl := rl_cellsl (l := l) (r := i + 1)
  have ew := nI_toInt (n := rl_cells l (i + 1)) (by omega)
  intro n
  induction n with
  | zero =>
    intro c k wd w6 hn hk hce hc hw hQ
    have ec := nI_toInt (n := c) (by omega)
    have ek := nI_toInt (n := k) (by omega)
    rw [rl_row0 (by omega), List.all_nil, List.length_nil, Nat.add_zero] at hQ
    refine wq_l 21 d191_19 rfl rfl rfl rfl ?_
    refine wq_l 23 d191_21 rfl rfl rfl rfl ?_
    refine wq_b 75 26 d191_23 rfl (by decide) rfl (fun c23 => ?_) (fun c23 => absurd (by rw [i_le, ee, ec]; omega) c23)
    refine wq_l 76 d191_75 rfl rfl rfl rfl ?_
    refine wq_k 78 12 d191_76 (by decide) rfl ?_
    refine wq_b 86 81 d191_78 rfl (by decide) rfl (fun c78 => ?_) (fun c78 => ?_)
    · -- pc 86
      refine wq_k 87 0 d191_86 (by decide) rfl ?_
      refine wq_ri d191_87 (rfl) ?_
      have c78 : k ≤ 12 := by rw [i_le, ek] at c78; have c78 : (k : Int) ≤ 12 := c78; omega
      rw [if_pos ⟨c78, rfl⟩] at hQ
      exact hQ
    · -- pc 81
      refine wq_k 83 38 d191_81 (by decide) rfl ?_
      refine wq_g 87 d191_83 (by decide) ?_
      refine wq_ri d191_87 (rfl) ?_
      have c78 : ¬ k ≤ 12 := by rw [i_le, ek] at c78; have c78 : ¬ (k : Int) ≤ 12 := c78; omega
      rw [if_neg (fun z => c78 z.1)] at hQ
      exact hQ
  | succ n ih =>
    intro c k wd w6 hn hk hce hc hw hQ
    have ec := nI_toInt (n := c) (by omega)
    have ek := nI_toInt (n := k) (by omega)
    by_cases q : c < e
    · rw [rl_rowu he hc q, List.all_cons, List.length_cons] at hQ
      obtain ⟨c1, c2, c3⟩ := rl_clz hc q
      have cl := rl_cellsl (l := l) (r := c)
      have ecl := nI_toInt (n := rl_cells l c) (by omega)
      have hbad : ¬ (rl_cells l c ≤ 12 ∧ rl_cells l c = rl_cells l (i + 1)) → Q (some (.int (nI 38))) σ := fun z => by
        rw [decide_eq_false z, Bool.false_and, if_neg (fun u => absurd u.2 (by decide))] at hQ
        exact hQ
      have hgood : rl_cells l c ≤ 12 ∧ rl_cells l c = rl_cells l (i + 1) → Q (some (.int (nI (if (k + 1) + (rl_row l (c + rl_z l c) e).length ≤ 12 ∧ ((rl_row l (c + rl_z l c) e).all (fun r => decide (rl_cells l r ≤ 12 ∧ rl_cells l r = rl_cells l (i + 1)))) = true then 0 else 38)))) σ := fun z => by
        rw [decide_eq_true z, Bool.true_and, show k + ((rl_row l (c + rl_z l c) e).length + 1) = (k + 1) + (rl_row l (c + rl_z l c) e).length by omega] at hQ
        exact hQ
      clear hQ
      have key : pm_WP pm_Y0 (pm_call pm_Y0 (d + 2)) 9 prog_8_method_13_code (some FieldType.int) Q 42 [.ref 9, .int (nI i), .int (nI k), .int (nI (rl_cells l (i + 1))), .int (nI e), .int (nI c), .int (nI (rl_cells l c))] [] σ := by
        refine wq_l 44 d191_42 rfl rfl rfl rfl ?_
        refine wq_l 45 d191_44 rfl rfl rfl rfl ?_
        refine wq_b 55 48 d191_45 rfl (by decide) rfl (fun c45 => ?_) (fun c45 => ?_)
        · -- pc 55
          refine wq_k 57 38 d191_55 (by decide) rfl ?_
          refine wq_ri d191_57 (rfl) ?_
          exact hbad (fun z => c45 (congrArg nI z.2))
        · -- pc 48
          refine wq_l 50 d191_48 rfl rfl rfl rfl ?_
          refine wq_k 52 12 d191_50 (by decide) rfl ?_
          refine wq_b 58 55 d191_52 rfl (by decide) rfl (fun c52 => ?_) (fun c52 => ?_)
          · -- pc 58
            refine wq_i 61 d191_58 rfl rfl rfl ?_
            refine wq_l 62 d191_61 rfl rfl rfl rfl ?_
            refine wq_gr (ci := 9) (j := 0) (q := 3) 65 d191_62 rfl rfl rfl rfl ?_
            refine wq_l 67 d191_65 rfl rfl rfl rfl ?_
            refine wq_v 70 [_] d191_67 rfl rfl m63 rfl rfl (Nat.le_of_ble_eq_true rfl) rfl (ck63 (cr_S h) (by omega) ?_)
            refine wq_s 72 d191_70 rfl rfl (Nat.le_of_ble_eq_true rfl) rfl rfl ?_
            refine wq_g 19 d191_72 (by decide) ?_
            have c45 : rl_cells l c = rl_cells l (i + 1) := hp_inj (by omega) (by omega) (Classical.not_not.mp c45)
            have c52 : rl_cells l c ≤ 12 := by rw [i_le, ecl] at c52; have c52 : (_ : Int) ≤ 12 := c52; omega
            rw [show nI k + Int32.ofInt 1 = nI (k + 1) from nI_1 k]
            exact ih (c + rl_z l c) (k + 1) _ _ (by omega) (by omega) c1 c3 (Or.inl rfl) (hgood ⟨c52, c45⟩)
          · -- pc 55
            refine wq_k 57 38 d191_55 (by decide) rfl ?_
            refine wq_ri d191_57 (rfl) ?_
            exact hbad (fun z => c52 (by rw [i_le, ecl]; show (_ : Int) ≤ 12; omega))
      rcases hw with hw | ⟨hw, hci⟩
      · subst hw
        refine wq_l 21 d191_19 rfl rfl rfl rfl ?_
        refine wq_l 23 d191_21 rfl rfl rfl rfl ?_
        refine wq_b 75 26 d191_23 rfl (by decide) rfl (fun c23 => absurd c23 (by rw [i_le, ee, ec]; omega)) (fun c23 => ?_)
        refine wq_l 27 d191_26 rfl rfl rfl rfl ?_
        refine wq_l 29 d191_27 rfl rfl rfl rfl ?_
        refine wq_v 32 [_] d191_29 rfl rfl m192 rfl rfl (Nat.le_of_ble_eq_true rfl) rfl (cr192 hG h (by omega) ?_)
        refine wq_s 34 d191_32 rfl rfl (Nat.le_of_ble_eq_true rfl) rfl rfl ?_
        refine wq_l 35 d191_34 rfl rfl rfl rfl ?_
        refine wq_k 36 (-1) d191_35 (by decide) rfl ?_
        refine wq_b 42 39 d191_36 rfl (by decide) rfl (fun c36 => ?_) (fun c36 => absurd (hp_ne (by omega)) c36)
        exact key
      · subst hw
        subst hci
        refine wq_l 21 d191_19 rfl rfl rfl rfl ?_
        refine wq_l 23 d191_21 rfl rfl rfl rfl ?_
        refine wq_b 75 26 d191_23 rfl (by decide) rfl (fun c23 => absurd c23 (by rw [i_le, ee, ec]; omega)) (fun c23 => ?_)
        refine wq_l 27 d191_26 rfl rfl rfl rfl ?_
        refine wq_l 29 d191_27 rfl rfl rfl rfl ?_
        refine wq_v 32 [_] d191_29 rfl rfl m192 rfl rfl (Nat.le_of_ble_eq_true rfl) rfl (cr192 hG h (by omega) ?_)
        refine wq_s 34 d191_32 rfl rfl (Nat.le_of_ble_eq_true rfl) rfl rfl ?_
        refine wq_l 35 d191_34 rfl rfl rfl rfl ?_
        refine wq_k 36 (-1) d191_35 (by decide) rfl ?_
        refine wq_b 42 39 d191_36 rfl (by decide) rfl (fun c36 => absurd c36 (fun z => z rfl)) (fun c36 => ?_)
        refine wq_l 41 d191_39 rfl rfl rfl rfl ?_
        refine wq_s 42 d191_41 rfl rfl (Nat.le_of_ble_eq_true rfl) rfl rfl ?_
        exact key
    · rw [rl_row0 (by omega), List.all_nil, List.length_nil, Nat.add_zero] at hQ
      refine wq_l 21 d191_19 rfl rfl rfl rfl ?_
      refine wq_l 23 d191_21 rfl rfl rfl rfl ?_
      refine wq_b 75 26 d191_23 rfl (by decide) rfl (fun c23 => ?_) (fun c23 => absurd (by rw [i_le, ee, ec]; omega) c23)
      refine wq_l 76 d191_75 rfl rfl rfl rfl ?_
      refine wq_k 78 12 d191_76 (by decide) rfl ?_
      refine wq_b 86 81 d191_78 rfl (by decide) rfl (fun c78 => ?_) (fun c78 => ?_)
      · -- pc 86
        refine wq_k 87 0 d191_86 (by decide) rfl ?_
        refine wq_ri d191_87 (rfl) ?_
        have c78 : k ≤ 12 := by rw [i_le, ek] at c78; have c78 : (k : Int) ≤ 12 := c78; omega
        rw [if_pos ⟨c78, rfl⟩] at hQ
        exact hQ
      · -- pc 81
        refine wq_k 83 38 d191_81 (by decide) rfl ?_
        refine wq_g 87 d191_83 (by decide) ?_
        refine wq_ri d191_87 (rfl) ?_
        have c78 : ¬ k ≤ 12 := by rw [i_le, ek] at c78; have c78 : ¬ (k : Int) ≤ 12 := c78; omega
        rw [if_neg (fun z => c78 z.1)] at hQ
        exact hQ
theorem cr191 {d : Nat} {l : List pg_N} {NN nx : Nat} {σ0 σ : pm_S} {A : rl_A} {Q : Option Value → pm_S → Prop} {i : Nat} (hG : lg_G l NN) (h : cr_I l NN σ0 σ nx A) (hi : i < l.length) (hQ : ∀ σ' A', cr_I l NN σ0 σ' nx A' → ((((rl_rung l i, A) : Nat × rl_A)).1 = 0 → A' = (((rl_rung l i, A) : Nat × rl_A)).2) → Q (some (.int (nI (((rl_rung l i, A) : Nat × rl_A)).1))) σ') : pm_call pm_Y0 (d + 3) 191 [.ref 9, .int (nI i)] σ Q := by
  obtain ⟨z1, z2, z3⟩ := lg_cl hG hi
  have hl := h.2.1.1
  refine wq_m m191 (Nat.le_of_ble_eq_true rfl) (by decide) rfl ?_
  refine wq_k 1 0 d191_0 (by decide) rfl ?_
  refine wq_s 2 d191_1 rfl rfl (Nat.le_of_ble_eq_true rfl) rfl rfl ?_
  refine wq_k 3 (-1) d191_2 (by decide) rfl ?_
  refine wq_s 4 d191_3 rfl rfl (Nat.le_of_ble_eq_true rfl) rfl rfl ?_
  refine wq_l 5 d191_4 rfl rfl rfl rfl ?_
  refine wq_gr (ci := 9) (j := 0) (q := 3) 8 d191_5 rfl rfl rfl rfl ?_
  refine wq_l 9 d191_8 rfl rfl rfl rfl ?_
  refine wq_v 12 [_] d191_9 rfl rfl m63 rfl rfl (Nat.le_of_ble_eq_true rfl) rfl (ck63 (cr_S h) (by omega) ?_)
  refine wq_s 14 d191_12 rfl rfl (Nat.le_of_ble_eq_true rfl) rfl rfl ?_
  refine wq_l 15 d191_14 rfl rfl rfl rfl ?_
  refine wq_k 16 1 d191_15 (by decide) rfl ?_
  refine wq_a 17 d191_16 rfl rfl ?_
  rw [nI_1]
  refine wq_s 19 d191_17 rfl rfl (Nat.le_of_ble_eq_true rfl) rfl rfl ?_
  refine cr191l hG h z1 (i + rl_z l i) (i + 1) 0 _ _ (by omega) (by omega) (by omega) z3 (Or.inr ⟨rfl, rfl⟩) ?_
  rw [Nat.zero_add]
  exact hQ _ _ h (fun _ => rfl)
