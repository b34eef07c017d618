theorem d170_0 : decode prog_3_method_9_code 0 = .ok (.aload_n 0, 1) := by decide +kernel
theorem d170_1 : decode prog_3_method_9_code 1 = .ok (.getfield 9, 3) := by decide +kernel
theorem d170_4 : decode prog_3_method_9_code 4 = .ok (.iload_n 1, 1) := by decide +kernel
theorem d170_5 : decode prog_3_method_9_code 5 = .ok (.invokevirtual 34, 3) := by decide +kernel
theorem d170_8 : decode prog_3_method_9_code 8 = .ok (.istore_n 2, 1) := by decide +kernel
theorem d170_9 : decode prog_3_method_9_code 9 = .ok (.iload_n 2, 1) := by decide +kernel
theorem d170_10 : decode prog_3_method_9_code 10 = .ok (.invokestatic 91, 3) := by decide +kernel
theorem d170_13 : decode prog_3_method_9_code 13 = .ok (.istore_n 3, 1) := by decide +kernel
theorem d170_14 : decode prog_3_method_9_code 14 = .ok (.aload_n 0, 1) := by decide +kernel
theorem d170_15 : decode prog_3_method_9_code 15 = .ok (.getfield 15, 3) := by decide +kernel
theorem d170_18 : decode prog_3_method_9_code 18 = .ok (.iload_n 2, 1) := by decide +kernel
theorem d170_19 : decode prog_3_method_9_code 19 = .ok (.iconst 1, 1) := by decide +kernel
theorem d170_20 : decode prog_3_method_9_code 20 = .ok (.invokevirtual 96, 3) := by decide +kernel
theorem d170_23 : decode prog_3_method_9_code 23 = .ok (.istore 4, 2) := by decide +kernel
theorem d170_25 : decode prog_3_method_9_code 25 = .ok (.iload_n 3, 1) := by decide +kernel
theorem d170_26 : decode prog_3_method_9_code 26 = .ok (.iconst (-1), 1) := by decide +kernel
theorem d170_27 : decode prog_3_method_9_code 27 = .ok (.if_icmp .ne 12, 3) := by decide +kernel
theorem d170_30 : decode prog_3_method_9_code 30 = .ok (.iload 4, 2) := by decide +kernel
theorem d170_32 : decode prog_3_method_9_code 32 = .ok (.iconst (-1), 1) := by decide +kernel
theorem d170_33 : decode prog_3_method_9_code 33 = .ok (.if_icmp .ne 6, 3) := by decide +kernel
theorem d170_36 : decode prog_3_method_9_code 36 = .ok (.bipush 24, 2) := by decide +kernel
theorem d170_38 : decode prog_3_method_9_code 38 = .ok (.ireturn, 1) := by decide +kernel
theorem d170_39 : decode prog_3_method_9_code 39 = .ok (.iload_n 3, 1) := by decide +kernel
theorem d170_40 : decode prog_3_method_9_code 40 = .ok (.iconst (-1), 1) := by decide +kernel
theorem d170_41 : decode prog_3_method_9_code 41 = .ok (.if_icmp .ne 15, 3) := by decide +kernel
theorem d170_44 : decode prog_3_method_9_code 44 = .ok (.aload_n 0, 1) := by decide +kernel
theorem d170_45 : decode prog_3_method_9_code 45 = .ok (.getfield 15, 3) := by decide +kernel
theorem d170_48 : decode prog_3_method_9_code 48 = .ok (.iload 4, 2) := by decide +kernel
theorem d170_50 : decode prog_3_method_9_code 50 = .ok (.invokevirtual 99, 3) := by decide +kernel
theorem d170_53 : decode prog_3_method_9_code 53 = .ok (.goto 7, 3) := by decide +kernel
theorem d170_56 : decode prog_3_method_9_code 56 = .ok (.iload_n 3, 1) := by decide +kernel
theorem d170_57 : decode prog_3_method_9_code 57 = .ok (.invokestatic 102, 3) := by decide +kernel
theorem d170_60 : decode prog_3_method_9_code 60 = .ok (.istore 5, 2) := by decide +kernel
theorem d170_62 : decode prog_3_method_9_code 62 = .ok (.aload_n 0, 1) := by decide +kernel
theorem d170_63 : decode prog_3_method_9_code 63 = .ok (.getfield 9, 3) := by decide +kernel
theorem d170_66 : decode prog_3_method_9_code 66 = .ok (.iload_n 1, 1) := by decide +kernel
theorem d170_67 : decode prog_3_method_9_code 67 = .ok (.invokevirtual 105, 3) := by decide +kernel
theorem d170_70 : decode prog_3_method_9_code 70 = .ok (.iload 5, 2) := by decide +kernel
theorem d170_72 : decode prog_3_method_9_code 72 = .ok (.if_icmp .eq 6, 3) := by decide +kernel
theorem d170_75 : decode prog_3_method_9_code 75 = .ok (.bipush 25, 2) := by decide +kernel
theorem d170_77 : decode prog_3_method_9_code 77 = .ok (.ireturn, 1) := by decide +kernel
theorem d170_78 : decode prog_3_method_9_code 78 = .ok (.iload_n 3, 1) := by decide +kernel
theorem d170_79 : decode prog_3_method_9_code 79 = .ok (.iconst (-1), 1) := by decide +kernel
theorem d170_80 : decode prog_3_method_9_code 80 = .ok (.if_icmp .ne 13, 3) := by decide +kernel
theorem d170_83 : decode prog_3_method_9_code 83 = .ok (.aload_n 0, 1) := by decide +kernel
theorem d170_84 : decode prog_3_method_9_code 84 = .ok (.iload 4, 2) := by decide +kernel
theorem d170_86 : decode prog_3_method_9_code 86 = .ok (.iload_n 1, 1) := by decide +kernel
theorem d170_87 : decode prog_3_method_9_code 87 = .ok (.invokevirtual 108, 3) := by decide +kernel
theorem d170_90 : decode prog_3_method_9_code 90 = .ok (.goto 9, 3) := by decide +kernel
theorem d170_93 : decode prog_3_method_9_code 93 = .ok (.aload_n 0, 1) := by decide +kernel
theorem d170_94 : decode prog_3_method_9_code 94 = .ok (.iload_n 3, 1) := by decide +kernel
theorem d170_95 : decode prog_3_method_9_code 95 = .ok (.iload_n 1, 1) := by decide +kernel
theorem d170_96 : decode prog_3_method_9_code 96 = .ok (.invokevirtual 111, 3) := by decide +kernel
theorem d170_99 : decode prog_3_method_9_code 99 = .ok (.istore 6, 2) := by decide +kernel
theorem d170_101 : decode prog_3_method_9_code 101 = .ok (.iload 6, 2) := by decide +kernel
theorem d170_103 : decode prog_3_method_9_code 103 = .ok (.iconst (-1), 1) := by decide +kernel
theorem d170_104 : decode prog_3_method_9_code 104 = .ok (.if_icmp .ne 6, 3) := by decide +kernel
theorem d170_107 : decode prog_3_method_9_code 107 = .ok (.bipush 26, 2) := by decide +kernel
theorem d170_109 : decode prog_3_method_9_code 109 = .ok (.ireturn, 1) := by decide +kernel
theorem d170_110 : decode prog_3_method_9_code 110 = .ok (.aload_n 0, 1) := by decide +kernel
theorem d170_111 : decode prog_3_method_9_code 111 = .ok (.getfield 9, 3) := by decide +kernel
theorem d170_114 : decode prog_3_method_9_code 114 = .ok (.iload_n 1, 1) := by decide +kernel
theorem d170_115 : decode prog_3_method_9_code 115 = .ok (.iload 6, 2) := by decide +kernel
theorem d170_117 : decode prog_3_method_9_code 117 = .ok (.invokevirtual 37, 3) := by decide +kernel
theorem d170_120 : decode prog_3_method_9_code 120 = .ok (.aload_n 0, 1) := by decide +kernel
theorem d170_121 : decode prog_3_method_9_code 121 = .ok (.getfield 9, 3) := by decide +kernel
theorem d170_124 : decode prog_3_method_9_code 124 = .ok (.iload_n 1, 1) := by decide +kernel
theorem d170_125 : decode prog_3_method_9_code 125 = .ok (.iload_n 3, 1) := by decide +kernel
theorem d170_126 : decode prog_3_method_9_code 126 = .ok (.iconst (-1), 1) := by decide +kernel
theorem d170_127 : decode prog_3_method_9_code 127 = .ok (.if_icmp .ne 11, 3) := by decide +kernel
theorem d170_130 : decode prog_3_method_9_code 130 = .ok (.iload 4, 2) := by decide +kernel
theorem d170_132 : decode prog_3_method_9_code 132 = .ok (.bipush 9, 2) := by decide +kernel
theorem d170_134 : decode prog_3_method_9_code 134 = .ok (.isub, 1) := by decide +kernel
theorem d170_135 : decode prog_3_method_9_code 135 = .ok (.goto 7, 3) := by decide +kernel
theorem d170_138 : decode prog_3_method_9_code 138 = .ok (.bipush 100, 2) := by decide +kernel
theorem d170_140 : decode prog_3_method_9_code 140 = .ok (.iload_n 3, 1) := by decide +kernel
theorem d170_141 : decode prog_3_method_9_code 141 = .ok (.iadd, 1) := by decide +kernel
theorem d170_142 : decode prog_3_method_9_code 142 = .ok (.invokevirtual 114, 3) := by decide +kernel
theorem d170_145 : decode prog_3_method_9_code 145 = .ok (.iconst 0, 1) := by decide +kernel
theorem d170_146 : decode prog_3_method_9_code 146 = .ok (.ireturn, 1) := by decide +kernel
theorem m170 : pm_m 170 = some (⟨"TypeRules$Expressions", "callFault", "(I)I"⟩, prog_3_method_9_code, 7, (some FieldType.int), 8, 1, 9) := rfl
theorem d166_0 : decode prog_3_method_5_code 0 = .ok (.aload_n 0, 1) := by decide +kernel
theorem d166_1 : decode prog_3_method_5_code 1 = .ok (.getfield 9, 3) := by decide +kernel
theorem d166_4 : decode prog_3_method_5_code 4 = .ok (.iload_n 1, 1) := by decide +kernel
theorem d166_5 : decode prog_3_method_5_code 5 = .ok (.invokevirtual 28, 3) := by decide +kernel
theorem d166_8 : decode prog_3_method_5_code 8 = .ok (.tableswitch 114 30 36 #[44, 73, 84, 90, 96, 102, 108], 44) := by decide +kernel
theorem d166_52 : decode prog_3_method_5_code 52 = .ok (.aload_n 0, 1) := by decide +kernel
theorem d166_53 : decode prog_3_method_5_code 53 = .ok (.getfield 9, 3) := by decide +kernel
theorem d166_56 : decode prog_3_method_5_code 56 = .ok (.iload_n 1, 1) := by decide +kernel
theorem d166_57 : decode prog_3_method_5_code 57 = .ok (.aload_n 0, 1) := by decide +kernel
theorem d166_58 : decode prog_3_method_5_code 58 = .ok (.getfield 9, 3) := by decide +kernel
theorem d166_61 : decode prog_3_method_5_code 61 = .ok (.iload_n 1, 1) := by decide +kernel
theorem d166_62 : decode prog_3_method_5_code 62 = .ok (.invokevirtual 34, 3) := by decide +kernel
theorem d166_65 : decode prog_3_method_5_code 65 = .ok (.sipush 32767, 3) := by decide +kernel
theorem d166_68 : decode prog_3_method_5_code 68 = .ok (.if_icmp .gt 7, 3) := by decide +kernel
theorem d166_71 : decode prog_3_method_5_code 71 = .ok (.iconst 1, 1) := by decide +kernel
theorem d166_72 : decode prog_3_method_5_code 72 = .ok (.goto 4, 3) := by decide +kernel
theorem d166_75 : decode prog_3_method_5_code 75 = .ok (.iconst 2, 1) := by decide +kernel
theorem d166_76 : decode prog_3_method_5_code 76 = .ok (.invokevirtual 37, 3) := by decide +kernel
theorem d166_79 : decode prog_3_method_5_code 79 = .ok (.iconst 0, 1) := by decide +kernel
theorem d166_80 : decode prog_3_method_5_code 80 = .ok (.ireturn, 1) := by decide +kernel
theorem d166_81 : decode prog_3_method_5_code 81 = .ok (.aload_n 0, 1) := by decide +kernel
theorem d166_82 : decode prog_3_method_5_code 82 = .ok (.getfield 9, 3) := by decide +kernel
theorem d166_85 : decode prog_3_method_5_code 85 = .ok (.iload_n 1, 1) := by decide +kernel
theorem d166_86 : decode prog_3_method_5_code 86 = .ok (.iconst 0, 1) := by decide +kernel
theorem d166_87 : decode prog_3_method_5_code 87 = .ok (.invokevirtual 37, 3) := by decide +kernel
theorem d166_90 : decode prog_3_method_5_code 90 = .ok (.iconst 0, 1) := by decide +kernel
theorem d166_91 : decode prog_3_method_5_code 91 = .ok (.ireturn, 1) := by decide +kernel
theorem d166_92 : decode prog_3_method_5_code 92 = .ok (.aload_n 0, 1) := by decide +kernel
theorem d166_93 : decode prog_3_method_5_code 93 = .ok (.iload_n 1, 1) := by decide +kernel
theorem d166_94 : decode prog_3_method_5_code 94 = .ok (.invokevirtual 41, 3) := by decide +kernel
theorem d166_97 : decode prog_3_method_5_code 97 = .ok (.ireturn, 1) := by decide +kernel
theorem d166_98 : decode prog_3_method_5_code 98 = .ok (.aload_n 0, 1) := by decide +kernel
theorem d166_99 : decode prog_3_method_5_code 99 = .ok (.iload_n 1, 1) := by decide +kernel
theorem d166_100 : decode prog_3_method_5_code 100 = .ok (.invokevirtual 44, 3) := by decide +kernel
theorem d166_103 : decode prog_3_method_5_code 103 = .ok (.ireturn, 1) := by decide +kernel
theorem d166_104 : decode prog_3_method_5_code 104 = .ok (.aload_n 0, 1) := by decide +kernel
theorem d166_105 : decode prog_3_method_5_code 105 = .ok (.iload_n 1, 1) := by decide +kernel
theorem d166_106 : decode prog_3_method_5_code 106 = .ok (.invokevirtual 47, 3) := by decide +kernel
theorem d166_109 : decode prog_3_method_5_code 109 = .ok (.ireturn, 1) := by decide +kernel
theorem d166_110 : decode prog_3_method_5_code 110 = .ok (.aload_n 0, 1) := by decide +kernel
theorem d166_111 : decode prog_3_method_5_code 111 = .ok (.iload_n 1, 1) := by decide +kernel
theorem d166_112 : decode prog_3_method_5_code 112 = .ok (.invokevirtual 50, 3) := by decide +kernel
theorem d166_115 : decode prog_3_method_5_code 115 = .ok (.ireturn, 1) := by decide +kernel
theorem d166_116 : decode prog_3_method_5_code 116 = .ok (.aload_n 0, 1) := by decide +kernel
theorem d166_117 : decode prog_3_method_5_code 117 = .ok (.iload_n 1, 1) := by decide +kernel
theorem d166_118 : decode prog_3_method_5_code 118 = .ok (.invokevirtual 53, 3) := by decide +kernel
theorem d166_121 : decode prog_3_method_5_code 121 = .ok (.ireturn, 1) := by decide +kernel
theorem d166_122 : decode prog_3_method_5_code 122 = .ok (.iconst 0, 1) := by decide +kernel
theorem d166_123 : decode prog_3_method_5_code 123 = .ok (.ireturn, 1) := by decide +kernel
theorem m166 : pm_m 166 = some (⟨"TypeRules$Expressions", "faultOf", "(I)I"⟩, prog_3_method_5_code, 2, (some FieldType.int), 8, 1, 9) := rfl
/-! CALLS of the class: own and standard functions -/
theorem cr172l {d : Nat} {l : List pg_N} {NN nx : Nat} {σ0 σ : pm_S} {A : rl_A} {Q : Option Value → pm_S → Prop} {i e b : Nat} {y : rl_B} (h : cr_I l NN σ0 σ nx A) (hb : rl_blk A.1 b = some y) (hk : y.1 = 1) (he : e ≤ l.length) (h8 : rl_nin y ≤ 8) : ∀ (n j c : Nat), rl_nin y = j + n → (rl_row l c e).length = n → c ≤ e → rl_cl l c e → Q (some (.int (if (((rl_row l c e).zip ((rl_ins y).drop j)).all (fun p => rl_fits (A.2.1 p.1) p.2)) = true then rl_v l (y.2.2.1 + 1) else -1))) σ → pm_WP pm_Y0 (pm_call pm_Y0 (d + 1)) 8 prog_3_method_11_code (some FieldType.int) Q 17 [.ref 8, .int (nI (9 + b)), .int (nI i), .int (nI c), .int (nI (rl_nin y)), .int (nI j)] [] σ := by
  have hl := h.2.1.1
  have il : (rl_ins y).length = rl_nin y := by unfold rl_ins rl_nin; rw [List.length_reverse, List.length_map]
  have en := nI_toInt (n := rl_nin y) (by omega)
  intro n
  induction n with
  | zero =>
    intro j c hj hr hce hc hQ
    have ej := nI_toInt (n := j) (by omega)
    rw [(rl_rowz he hc hr hce).2, List.zip_nil_left, List.all_nil, if_pos rfl] at hQ
    refine wq_l 19 d172_17 rfl rfl rfl rfl ?_
    refine wq_l 21 d172_19 rfl rfl rfl rfl ?_
    refine wq_b 65 24 d172_21 rfl (by decide) rfl (fun c21 => ?_) (fun c21 => absurd (by rw [i_le, en, ej]; omega) c21)
    refine wq_l 66 d172_65 rfl rfl rfl rfl ?_
    refine wq_gr (ci := 8) (j := 1) (q := 5) 69 d172_66 rfl rfl rfl rfl ?_
    refine wq_l 70 d172_69 rfl rfl rfl rfl ?_
    refine wq_v 73 [_] d172_70 rfl rfl m125 rfl rfl (Nat.le_of_ble_eq_true rfl) rfl (cb125 h.2.2.2.2.1 hb ?_)
    refine wq_ri d172_73 (rfl) ?_
    rw [if_pos hk]; exact hQ
  | succ n ih =>
    intro j c hj hr hce hc hQ
    have ej := nI_toInt (n := j) (by omega)
    obtain ⟨r1, r2, r3, r4, r5, r6⟩ := rl_rowl he hc hr
    have hjl : j < (rl_ins y).length := by omega
    have et : (rl_ins y)[j]? = some ((rl_ins y)[j]'hjl) := List.getElem?_eq_getElem hjl
    rw [r2, List.drop_eq_getElem_cons hjl, List.zip_cons_cons, List.all_cons] at hQ
    generalize (rl_ins y)[j]'hjl = ty at *
    dsimp only at hQ
    refine wq_l 19 d172_17 rfl rfl rfl rfl ?_
    refine wq_l 21 d172_19 rfl rfl rfl rfl ?_
    refine wq_b 65 24 d172_21 rfl (by decide) rfl (fun c21 => absurd c21 (by rw [i_le, en, ej]; omega)) (fun c21 => ?_)
    refine wq_l 25 d172_24 rfl rfl rfl rfl ?_
    refine wq_gr (ci := 8) (j := 0) (q := 3) 28 d172_25 rfl rfl rfl rfl ?_
    refine wq_l 29 d172_28 rfl rfl rfl rfl ?_
    refine wq_v 32 [_] d172_29 rfl rfl m71 rfl rfl (Nat.le_of_ble_eq_true rfl) rfl (ck71 h (by omega) ?_)
    refine wq_l 33 d172_32 rfl rfl rfl rfl ?_
    refine wq_gr (ci := 8) (j := 1) (q := 5) 36 d172_33 rfl rfl rfl rfl ?_
    refine wq_l 37 d172_36 rfl rfl rfl rfl ?_
    refine wq_l 39 d172_37 rfl rfl rfl rfl ?_
    refine wq_v 42 [_, _] d172_39 rfl rfl m124 rfl rfl (Nat.le_of_ble_eq_true rfl) rfl (cb124 h.2.2.2.2.1 hb (by omega) et ?_)
    refine wq_vs 45 [_, _] d172_42 rfl rfl m173 rfl (Nat.le_of_ble_eq_true rfl) rfl (sp173 ?_)
    refine wq_b 50 48 d172_45 rfl (by decide) rfl (fun c45 => ?_) (fun c45 => ?_)
    · -- pc 50
      have f45 := b2n c45
      refine wq_l 51 d172_50 rfl rfl rfl rfl ?_
      refine wq_gr (ci := 8) (j := 0) (q := 3) 54 d172_51 rfl rfl rfl rfl ?_
      refine wq_l 55 d172_54 rfl rfl rfl rfl ?_
      refine wq_v 58 [_] d172_55 rfl rfl m63 rfl rfl (Nat.le_of_ble_eq_true rfl) rfl (ck63 (cr_S h) (by omega) ?_)
      refine wq_s 59 d172_58 rfl rfl (Nat.le_of_ble_eq_true rfl) rfl rfl ?_
      refine wq_i 62 d172_59 rfl rfl rfl ?_
      refine wq_g 17 d172_62 (by decide) ?_
      rw [show nI j + Int32.ofInt 1 = nI (j + 1) from nI_1 j]
      rw [f45, Bool.true_and] at hQ
      exact ih (j + 1) (c + rl_z l c) (by omega) r3 r4 r6 hQ
    · -- pc 48
      have f45 := b2y c45
      refine wq_k 49 (-1) d172_48 (by decide) rfl ?_
      refine wq_ri d172_49 (rfl) ?_
      rw [f45, Bool.false_and, if_neg (by decide)] at hQ
      exact hQ
theorem cr172 {d : Nat} {l : List pg_N} {NN nx : Nat} {σ0 σ : pm_S} {A : rl_A} {Q : Option Value → pm_S → Prop} {i b : Nat} {y : rl_B} (hG : lg_G l NN) (h : cr_I l NN σ0 σ nx A) (hi : i < l.length) (hb : rl_blk A.1 b = some y) (hk : y.1 = 1) (h8 : rl_nin y ≤ 8) (hn : (rl_c l i).length = rl_nin y) (hQ : Q (some (.int (if (((rl_c l i).zip (rl_ins y)).all (fun p => rl_fits (A.2.1 p.1) p.2)) = true then rl_v l (y.2.2.1 + 1) else -1))) σ) : pm_call pm_Y0 (d + 2) 172 [.ref 8, .int (nI (9 + b)), .int (nI i)] σ Q := by
  obtain ⟨z1, z2, z3⟩ := lg_cl hG hi
  refine wq_m m172 (Nat.le_of_ble_eq_true rfl) (by decide) rfl ?_
  refine wq_l 1 d172_0 rfl rfl rfl rfl ?_
  refine wq_k 2 1 d172_1 (by decide) rfl ?_
  refine wq_a 3 d172_2 rfl rfl ?_
  rw [nI_1]
  refine wq_s 4 d172_3 rfl rfl (Nat.le_of_ble_eq_true rfl) rfl rfl ?_
  refine wq_l 5 d172_4 rfl rfl rfl rfl ?_
  refine wq_gr (ci := 8) (j := 1) (q := 5) 8 d172_5 rfl rfl rfl rfl ?_
  refine wq_l 9 d172_8 rfl rfl rfl rfl ?_
  refine wq_v 12 [_] d172_9 rfl rfl m120 rfl rfl (Nat.le_of_ble_eq_true rfl) rfl (cb120 h.2.2.2.2.1 hb ?_)
  refine wq_s 14 d172_12 rfl rfl (Nat.le_of_ble_eq_true rfl) rfl rfl ?_
  refine wq_k 15 0 d172_14 (by decide) rfl ?_
  refine wq_s 17 d172_15 rfl rfl (Nat.le_of_ble_eq_true rfl) rfl rfl ?_
  exact cr172l h hb hk z1 h8 (rl_nin y) 0 (i + 1) (by omega) hn (by omega) z3 (by rw [List.drop_zero]; exact hQ)
theorem rl_std4 (a b c : Int32) : rl_std 4 a b c = if a = 0 then rl_com b c else -1 := rfl
theorem rl_std5 (a b c : Int32) : rl_std 5 a b c = if rl_num a = true ∧ rl_num b = true then a else -1 := rfl
theorem rl_std6 (a b c : Int32) : rl_std 6 a b c = if rl_num a = true ∧ rl_num b = true then a else -1 := rfl
theorem rl_std9 (a b c : Int32) : rl_std 9 a b c = if rl_num a = true then 0 else -1 := rfl
theorem cr174a {d : Nat} {l : List pg_N} {NN nx : Nat} {σ0 σ : pm_S} {A : rl_A} {Q : Option Value → pm_S → Prop} {i f : Nat} (h : cr_I l NN σ0 σ nx A) (hi : i + 1 < l.length) (hz : i + rl_z l i ≤ l.length) (hf : f < 10) (ho : rl_ops f = 1) (e1 : i + 1 + rl_z l (i + 1) = i + rl_z l i) (hQ : Q (some (.int (rl_std f (A.2.1 (i + 1)) (-1) (-1)))) σ) : pm_call pm_Y0 (d + 3) 174 [.ref 8, .int (nI f), .int (nI i)] σ Q := by
  have hl := h.2.1.1
  have ef := nI_toInt (n := f) (by omega)
  have ez := nI_toInt (n := i + rl_z l i) (by omega)
  have es := nI_toInt (n := i + 1 + rl_z l (i + 1)) (by omega)
  refine wq_m m174 (Nat.le_of_ble_eq_true rfl) (by decide) rfl ?_
  refine wq_l 1 d174_0 rfl rfl rfl rfl ?_
  refine wq_gr (ci := 8) (j := 0) (q := 3) 4 d174_1 rfl rfl rfl rfl ?_
  refine wq_l 5 d174_4 rfl rfl rfl rfl ?_
  refine wq_v 8 [_] d174_5 rfl rfl m63 rfl rfl (Nat.le_of_ble_eq_true rfl) rfl (ck63 (cr_S h) (by omega) ?_)
  refine wq_s 9 d174_8 rfl rfl (Nat.le_of_ble_eq_true rfl) rfl rfl ?_
  refine wq_l 10 d174_9 rfl rfl rfl rfl ?_
  refine wq_gr (ci := 8) (j := 0) (q := 3) 13 d174_10 rfl rfl rfl rfl ?_
  refine wq_l 14 d174_13 rfl rfl rfl rfl ?_
  refine wq_k 15 1 d174_14 (by decide) rfl ?_
  refine wq_a 16 d174_15 rfl rfl ?_
  rw [nI_1]
  refine wq_v 19 [_] d174_16 rfl rfl m63 rfl rfl (Nat.le_of_ble_eq_true rfl) rfl (ck63 (cr_S h) (by omega) ?_)
  refine wq_s 21 d174_19 rfl rfl (Nat.le_of_ble_eq_true rfl) rfl rfl ?_
  refine wq_l 23 d174_21 rfl rfl rfl rfl ?_
  refine wq_l 24 d174_23 rfl rfl rfl rfl ?_
  refine wq_b 39 27 d174_24 rfl (by decide) rfl (fun c24 => ?_) (fun c24 => absurd (by rw [i_le, ez, es]; omega) c24)
  refine wq_l 40 d174_39 rfl rfl rfl rfl ?_
  refine wq_s 42 d174_40 rfl rfl (Nat.le_of_ble_eq_true rfl) rfl rfl ?_
  refine wq_l 43 d174_42 rfl rfl rfl rfl ?_
  refine wq_gr (ci := 8) (j := 0) (q := 3) 46 d174_43 rfl rfl rfl rfl ?_
  refine wq_l 47 d174_46 rfl rfl rfl rfl ?_
  refine wq_k 48 1 d174_47 (by decide) rfl ?_
  refine wq_a 49 d174_48 rfl rfl ?_
  rw [nI_1]
  refine wq_v 52 [_] d174_49 rfl rfl m71 rfl rfl (Nat.le_of_ble_eq_true rfl) rfl (ck71 h (by omega) ?_)
  refine wq_s 54 d174_52 rfl rfl (Nat.le_of_ble_eq_true rfl) rfl rfl ?_
  refine wq_l 56 d174_54 rfl rfl rfl rfl ?_
  refine wq_l 57 d174_56 rfl rfl rfl rfl ?_
  refine wq_b 72 60 d174_57 rfl (by decide) rfl (fun c57 => ?_) (fun c57 => absurd (by rw [i_le, ez, es]; omega) c57)
  refine wq_k 73 (-1) d174_72 (by decide) rfl ?_
  refine wq_s 75 d174_73 rfl rfl (Nat.le_of_ble_eq_true rfl) rfl rfl ?_
  refine wq_l 77 d174_75 rfl rfl rfl rfl ?_
  refine wq_l 78 d174_77 rfl rfl rfl rfl ?_
  refine wq_b 93 81 d174_78 rfl (by decide) rfl (fun c78 => ?_) (fun c78 => absurd (by rw [i_le, ez]; omega) c78)
  refine wq_k 94 (-1) d174_93 (by decide) rfl ?_
  refine wq_s 96 d174_94 rfl rfl (Nat.le_of_ble_eq_true rfl) rfl rfl ?_
  refine wq_l 97 d174_96 rfl rfl rfl rfl ?_
  refine wq_tw [(0, 148), (1, 156), (2, 156), (3, 164), (4, 177), (5, 194), (6, 194), (7, 217), (8, 219)] 221 d174_97 (by decide) (List.forall_mem_cons.mpr ⟨fun e97 => ?_, List.forall_mem_cons.mpr ⟨fun e97 => ?_, List.forall_mem_cons.mpr ⟨fun e97 => ?_, List.forall_mem_cons.mpr ⟨fun e97 => ?_, List.forall_mem_cons.mpr ⟨fun e97 => ?_, List.forall_mem_cons.mpr ⟨fun e97 => ?_, List.forall_mem_cons.mpr ⟨fun e97 => ?_, List.forall_mem_cons.mpr ⟨fun e97 => ?_, List.forall_mem_cons.mpr ⟨fun e97 => ?_, fun _ h => absurd h List.not_mem_nil⟩⟩⟩⟩⟩⟩⟩⟩⟩) (fun e97 => ?_)
  · -- case 0
    have e97 : f = 0 := hp_inj (by omega) (by omega) e97
    subst e97
    refine wq_l 150 d174_148 rfl rfl rfl rfl ?_
    refine wq_l 152 d174_150 rfl rfl rfl rfl ?_
    refine wq_vs 155 [_, _] d174_152 rfl rfl m175 rfl (Nat.le_of_ble_eq_true rfl) rfl (sp175 ?_)
    refine wq_ri d174_155 (rfl) ?_
    exact hQ
  · -- case 1
    exfalso
    have e97 : f = 1 := hp_inj (by omega) (by omega) e97
    subst e97
    exact absurd ho (by decide)
    
  · -- case 2
    exfalso
    have e97 : f = 2 := hp_inj (by omega) (by omega) e97
    subst e97
    exact absurd ho (by decide)
    
  · -- case 3
    exfalso
    have e97 : f = 3 := hp_inj (by omega) (by omega) e97
    subst e97
    exact absurd ho (by decide)
    
  · -- case 4
    exfalso
    have e97 : f = 4 := hp_inj (by omega) (by omega) e97
    subst e97
    exact absurd ho (by decide)
    
  · -- case 5
    exfalso
    have e97 : f = 5 := hp_inj (by omega) (by omega) e97
    subst e97
    exact absurd ho (by decide)
    
  · -- case 6
    exfalso
    have e97 : f = 6 := hp_inj (by omega) (by omega) e97
    subst e97
    exact absurd ho (by decide)
    
  · -- case 7
    have e97 : f = 7 := hp_inj (by omega) (by omega) e97
    subst e97
    refine wq_k 218 1 d174_217 (by decide) rfl ?_
    refine wq_ri d174_218 (rfl) ?_
    exact hQ
  · -- case 8
    have e97 : f = 8 := hp_inj (by omega) (by omega) e97
    subst e97
    refine wq_k 220 2 d174_219 (by decide) rfl ?_
    refine wq_ri d174_220 (rfl) ?_
    exact hQ
  · -- default
    have w97_0 := e97 (0, 148) (by decide)
    have w97_1 := e97 (1, 156) (by decide)
    have w97_2 := e97 (2, 156) (by decide)
    have w97_3 := e97 (3, 164) (by decide)
    have w97_4 := e97 (4, 177) (by decide)
    have w97_5 := e97 (5, 194) (by decide)
    have w97_6 := e97 (6, 194) (by decide)
    have w97_7 := e97 (7, 217) (by decide)
    have w97_8 := e97 (8, 219) (by decide)
    simp only [i_eq, ef, Int32.reduceToInt] at w97_0 w97_1 w97_2 w97_3 w97_4 w97_5 w97_6 w97_7 w97_8
    have f9 : f = 9 := by omega
    subst f9
    refine wq_l 223 d174_221 rfl rfl rfl rfl ?_
    refine wq_vs 226 [_] d174_223 rfl rfl m168 rfl (Nat.le_of_ble_eq_true rfl) rfl (sp168 ?_)
    refine wq_b 233 229 d174_226 rfl (by decide) rfl (fun c226 => ?_) (fun c226 => ?_)
    · -- pc 233
      have f226 := b2z c226
      refine wq_k 234 (-1) d174_233 (by decide) rfl ?_
      refine wq_ri d174_234 (rfl) ?_
      rw [rl_std9, if_neg (fun z => absurd (f226.symm.trans z) (by decide))] at hQ; exact hQ
    · -- pc 229
      have f226 := b2n c226
      refine wq_k 230 0 d174_229 (by decide) rfl ?_
      refine wq_g 234 d174_230 (by decide) ?_
      refine wq_ri d174_234 (rfl) ?_
      rw [rl_std9, if_pos f226] at hQ; exact hQ
theorem cr174b {d : Nat} {l : List pg_N} {NN nx : Nat} {σ0 σ : pm_S} {A : rl_A} {Q : Option Value → pm_S → Prop} {i f : Nat} (h : cr_I l NN σ0 σ nx A) (hi : i + 1 < l.length) (hz : i + rl_z l i ≤ l.length) (hf : f < 10) (ho : rl_ops f = 2) (e0 : i + 1 + rl_z l (i + 1) < l.length) (e1 : i + 1 + rl_z l (i + 1) + rl_z l (i + 1 + rl_z l (i + 1)) = i + rl_z l i) (e2 : i + 1 + rl_z l (i + 1) < i + rl_z l i) (hQ : Q (some (.int (rl_std f (A.2.1 (i + 1)) (A.2.1 (i + 1 + rl_z l (i + 1))) (-1)))) σ) : pm_call pm_Y0 (d + 3) 174 [.ref 8, .int (nI f), .int (nI i)] σ Q := by
  have hl := h.2.1.1
  have ef := nI_toInt (n := f) (by omega)
  have ez := nI_toInt (n := i + rl_z l i) (by omega)
  have es := nI_toInt (n := i + 1 + rl_z l (i + 1)) (by omega)
  have et := nI_toInt (n := i + 1 + rl_z l (i + 1) + rl_z l (i + 1 + rl_z l (i + 1))) (by omega)
  refine wq_m m174 (Nat.le_of_ble_eq_true rfl) (by decide) rfl ?_
  refine wq_l 1 d174_0 rfl rfl rfl rfl ?_
  refine wq_gr (ci := 8) (j := 0) (q := 3) 4 d174_1 rfl rfl rfl rfl ?_
  refine wq_l 5 d174_4 rfl rfl rfl rfl ?_
  refine wq_v 8 [_] d174_5 rfl rfl m63 rfl rfl (Nat.le_of_ble_eq_true rfl) rfl (ck63 (cr_S h) (by omega) ?_)
  refine wq_s 9 d174_8 rfl rfl (Nat.le_of_ble_eq_true rfl) rfl rfl ?_
  refine wq_l 10 d174_9 rfl rfl rfl rfl ?_
  refine wq_gr (ci := 8) (j := 0) (q := 3) 13 d174_10 rfl rfl rfl rfl ?_
  refine wq_l 14 d174_13 rfl rfl rfl rfl ?_
  refine wq_k 15 1 d174_14 (by decide) rfl ?_
  refine wq_a 16 d174_15 rfl rfl ?_
  rw [nI_1]
  refine wq_v 19 [_] d174_16 rfl rfl m63 rfl rfl (Nat.le_of_ble_eq_true rfl) rfl (ck63 (cr_S h) (by omega) ?_)
  refine wq_s 21 d174_19 rfl rfl (Nat.le_of_ble_eq_true rfl) rfl rfl ?_
  refine wq_l 23 d174_21 rfl rfl rfl rfl ?_
  refine wq_l 24 d174_23 rfl rfl rfl rfl ?_
  refine wq_b 39 27 d174_24 rfl (by decide) rfl (fun c24 => absurd c24 (by rw [i_le, ez, es]; omega)) (fun c24 => ?_)
  refine wq_l 28 d174_27 rfl rfl rfl rfl ?_
  refine wq_gr (ci := 8) (j := 0) (q := 3) 31 d174_28 rfl rfl rfl rfl ?_
  refine wq_l 33 d174_31 rfl rfl rfl rfl ?_
  refine wq_v 36 [_] d174_33 rfl rfl m63 rfl rfl (Nat.le_of_ble_eq_true rfl) rfl (ck63 (cr_S h) (by omega) ?_)
  refine wq_g 40 d174_36 (by decide) ?_
  refine wq_s 42 d174_40 rfl rfl (Nat.le_of_ble_eq_true rfl) rfl rfl ?_
  refine wq_l 43 d174_42 rfl rfl rfl rfl ?_
  refine wq_gr (ci := 8) (j := 0) (q := 3) 46 d174_43 rfl rfl rfl rfl ?_
  refine wq_l 47 d174_46 rfl rfl rfl rfl ?_
  refine wq_k 48 1 d174_47 (by decide) rfl ?_
  refine wq_a 49 d174_48 rfl rfl ?_
  rw [nI_1]
  refine wq_v 52 [_] d174_49 rfl rfl m71 rfl rfl (Nat.le_of_ble_eq_true rfl) rfl (ck71 h (by omega) ?_)
  refine wq_s 54 d174_52 rfl rfl (Nat.le_of_ble_eq_true rfl) rfl rfl ?_
  refine wq_l 56 d174_54 rfl rfl rfl rfl ?_
  refine wq_l 57 d174_56 rfl rfl rfl rfl ?_
  refine wq_b 72 60 d174_57 rfl (by decide) rfl (fun c57 => absurd c57 (by rw [i_le, ez, es]; omega)) (fun c57 => ?_)
  refine wq_l 61 d174_60 rfl rfl rfl rfl ?_
  refine wq_gr (ci := 8) (j := 0) (q := 3) 64 d174_61 rfl rfl rfl rfl ?_
  refine wq_l 66 d174_64 rfl rfl rfl rfl ?_
  refine wq_v 69 [_] d174_66 rfl rfl m71 rfl rfl (Nat.le_of_ble_eq_true rfl) rfl (ck71 h (by omega) ?_)
  refine wq_g 73 d174_69 (by decide) ?_
  refine wq_s 75 d174_73 rfl rfl (Nat.le_of_ble_eq_true rfl) rfl rfl ?_
  refine wq_l 77 d174_75 rfl rfl rfl rfl ?_
  refine wq_l 78 d174_77 rfl rfl rfl rfl ?_
  refine wq_b 93 81 d174_78 rfl (by decide) rfl (fun c78 => ?_) (fun c78 => absurd (by rw [i_le, ez, et]; omega) c78)
  refine wq_k 94 (-1) d174_93 (by decide) rfl ?_
  refine wq_s 96 d174_94 rfl rfl (Nat.le_of_ble_eq_true rfl) rfl rfl ?_
  refine wq_l 97 d174_96 rfl rfl rfl rfl ?_
  refine wq_tw [(0, 148), (1, 156), (2, 156), (3, 164), (4, 177), (5, 194), (6, 194), (7, 217), (8, 219)] 221 d174_97 (by decide) (List.forall_mem_cons.mpr ⟨fun e97 => ?_, List.forall_mem_cons.mpr ⟨fun e97 => ?_, List.forall_mem_cons.mpr ⟨fun e97 => ?_, List.forall_mem_cons.mpr ⟨fun e97 => ?_, List.forall_mem_cons.mpr ⟨fun e97 => ?_, List.forall_mem_cons.mpr ⟨fun e97 => ?_, List.forall_mem_cons.mpr ⟨fun e97 => ?_, List.forall_mem_cons.mpr ⟨fun e97 => ?_, List.forall_mem_cons.mpr ⟨fun e97 => ?_, fun _ h => absurd h List.not_mem_nil⟩⟩⟩⟩⟩⟩⟩⟩⟩) (fun e97 => ?_)
  · -- case 0
    exfalso
    have e97 : f = 0 := hp_inj (by omega) (by omega) e97
    subst e97
    exact absurd ho (by decide)
    
  · -- case 1
    have e97 : f = 1 := hp_inj (by omega) (by omega) e97
    subst e97
    refine wq_l 158 d174_156 rfl rfl rfl rfl ?_
    refine wq_l 160 d174_158 rfl rfl rfl rfl ?_
    refine wq_vs 163 [_, _] d174_160 rfl rfl m175 rfl (Nat.le_of_ble_eq_true rfl) rfl (sp175 ?_)
    refine wq_ri d174_163 (rfl) ?_
    exact hQ
  · -- case 2
    have e97 : f = 2 := hp_inj (by omega) (by omega) e97
    subst e97
    refine wq_l 158 d174_156 rfl rfl rfl rfl ?_
    refine wq_l 160 d174_158 rfl rfl rfl rfl ?_
    refine wq_vs 163 [_, _] d174_160 rfl rfl m175 rfl (Nat.le_of_ble_eq_true rfl) rfl (sp175 ?_)
    refine wq_ri d174_163 (rfl) ?_
    exact hQ
  · -- case 3
    exfalso
    have e97 : f = 3 := hp_inj (by omega) (by omega) e97
    subst e97
    exact absurd ho (by decide)
    
  · -- case 4
    exfalso
    have e97 : f = 4 := hp_inj (by omega) (by omega) e97
    subst e97
    exact absurd ho (by decide)
    
  · -- case 5
    have e97 : f = 5 := hp_inj (by omega) (by omega) e97
    subst e97
    refine wq_l 196 d174_194 rfl rfl rfl rfl ?_
    refine wq_vs 199 [_] d174_196 rfl rfl m168 rfl (Nat.le_of_ble_eq_true rfl) rfl (sp168 ?_)
    refine wq_b 215 202 d174_199 rfl (by decide) rfl (fun c199 => ?_) (fun c199 => ?_)
    · -- pc 215
      have f199 := b2z c199
      refine wq_k 216 (-1) d174_215 (by decide) rfl ?_
      refine wq_ri d174_216 (rfl) ?_
      rw [rl_std5, if_neg (fun z => absurd (f199.symm.trans z.1) (by decide))] at hQ; exact hQ
    · -- pc 202
      have f199 := b2n c199
      refine wq_l 204 d174_202 rfl rfl rfl rfl ?_
      refine wq_vs 207 [_] d174_204 rfl rfl m168 rfl (Nat.le_of_ble_eq_true rfl) rfl (sp168 ?_)
      refine wq_b 215 210 d174_207 rfl (by decide) rfl (fun c207 => ?_) (fun c207 => ?_)
      · -- pc 215
        have f207 := b2z c207
        refine wq_k 216 (-1) d174_215 (by decide) rfl ?_
        refine wq_ri d174_216 (rfl) ?_
        rw [rl_std5, if_neg (fun z => absurd (f207.symm.trans z.2) (by decide))] at hQ; exact hQ
      · -- pc 210
        have f207 := b2n c207
        refine wq_l 212 d174_210 rfl rfl rfl rfl ?_
        refine wq_g 216 d174_212 (by decide) ?_
        refine wq_ri d174_216 (rfl) ?_
        rw [rl_std5, if_pos ⟨f199, f207⟩] at hQ; exact hQ
  · -- case 6
    have e97 : f = 6 := hp_inj (by omega) (by omega) e97
    subst e97
    refine wq_l 196 d174_194 rfl rfl rfl rfl ?_
    refine wq_vs 199 [_] d174_196 rfl rfl m168 rfl (Nat.le_of_ble_eq_true rfl) rfl (sp168 ?_)
    refine wq_b 215 202 d174_199 rfl (by decide) rfl (fun c199 => ?_) (fun c199 => ?_)
    · -- pc 215
      have f199 := b2z c199
      refine wq_k 216 (-1) d174_215 (by decide) rfl ?_
      refine wq_ri d174_216 (rfl) ?_
      rw [rl_std6, if_neg (fun z => absurd (f199.symm.trans z.1) (by decide))] at hQ; exact hQ
    · -- pc 202
      have f199 := b2n c199
      refine wq_l 204 d174_202 rfl rfl rfl rfl ?_
      refine wq_vs 207 [_] d174_204 rfl rfl m168 rfl (Nat.le_of_ble_eq_true rfl) rfl (sp168 ?_)
      refine wq_b 215 210 d174_207 rfl (by decide) rfl (fun c207 => ?_) (fun c207 => ?_)
      · -- pc 215
        have f207 := b2z c207
        refine wq_k 216 (-1) d174_215 (by decide) rfl ?_
        refine wq_ri d174_216 (rfl) ?_
        rw [rl_std6, if_neg (fun z => absurd (f207.symm.trans z.2) (by decide))] at hQ; exact hQ
      · -- pc 210
        have f207 := b2n c207
        refine wq_l 212 d174_210 rfl rfl rfl rfl ?_
        refine wq_g 216 d174_212 (by decide) ?_
        refine wq_ri d174_216 (rfl) ?_
        rw [rl_std6, if_pos ⟨f199, f207⟩] at hQ; exact hQ
  · -- case 7
    exfalso
    have e97 : f = 7 := hp_inj (by omega) (by omega) e97
    subst e97
    exact absurd ho (by decide)
    
  · -- case 8
    exfalso
    have e97 : f = 8 := hp_inj (by omega) (by omega) e97
    subst e97
    exact absurd ho (by decide)
    
  · -- default
    have w97_0 := e97 (0, 148) (by decide)
    have w97_1 := e97 (1, 156) (by decide)
    have w97_2 := e97 (2, 156) (by decide)
    have w97_3 := e97 (3, 164) (by decide)
    have w97_4 := e97 (4, 177) (by decide)
    have w97_5 := e97 (5, 194) (by decide)
    have w97_6 := e97 (6, 194) (by decide)
    have w97_7 := e97 (7, 217) (by decide)
    have w97_8 := e97 (8, 219) (by decide)
    exfalso
    simp only [i_eq, ef, Int32.reduceToInt] at w97_0 w97_1 w97_2 w97_3 w97_4 w97_5 w97_6 w97_7 w97_8
    have : f = 9 := by omega
    subst this
    exact absurd ho (by decide)
theorem cr174c {d : Nat} {l : List pg_N} {NN nx : Nat} {σ0 σ : pm_S} {A : rl_A} {Q : Option Value → pm_S → Prop} {i f : Nat} (h : cr_I l NN σ0 σ nx A) (hi : i + 1 < l.length) (hz : i + rl_z l i ≤ l.length) (hf : f < 10) (ho : rl_ops f = 3) (e0 : i + 1 + rl_z l (i + 1) < l.length) (e00 : i + 1 + rl_z l (i + 1) + rl_z l (i + 1 + rl_z l (i + 1)) < l.length) (e1 : i + 1 + rl_z l (i + 1) + rl_z l (i + 1 + rl_z l (i + 1)) < i + rl_z l i) (e2 : i + 1 + rl_z l (i + 1) < i + rl_z l i) (hQ : Q (some (.int (rl_std f (A.2.1 (i + 1)) (A.2.1 (i + 1 + rl_z l (i + 1))) (A.2.1 (i + 1 + rl_z l (i + 1) + rl_z l (i + 1 + rl_z l (i + 1))))))) σ) : pm_call pm_Y0 (d + 3) 174 [.ref 8, .int (nI f), .int (nI i)] σ Q := by
  have hl := h.2.1.1
  have ef := nI_toInt (n := f) (by omega)
  have ez := nI_toInt (n := i + rl_z l i) (by omega)
  have es := nI_toInt (n := i + 1 + rl_z l (i + 1)) (by omega)
  have et := nI_toInt (n := i + 1 + rl_z l (i + 1) + rl_z l (i + 1 + rl_z l (i + 1))) (by omega)
  refine wq_m m174 (Nat.le_of_ble_eq_true rfl) (by decide) rfl ?_
  refine wq_l 1 d174_0 rfl rfl rfl rfl ?_
  refine wq_gr (ci := 8) (j := 0) (q := 3) 4 d174_1 rfl rfl rfl rfl ?_
  refine wq_l 5 d174_4 rfl rfl rfl rfl ?_
  refine wq_v 8 [_] d174_5 rfl rfl m63 rfl rfl (Nat.le_of_ble_eq_true rfl) rfl (ck63 (cr_S h) (by omega) ?_)
  refine wq_s 9 d174_8 rfl rfl (Nat.le_of_ble_eq_true rfl) rfl rfl ?_
  refine wq_l 10 d174_9 rfl rfl rfl rfl ?_
  refine wq_gr (ci := 8) (j := 0) (q := 3) 13 d174_10 rfl rfl rfl rfl ?_
  refine wq_l 14 d174_13 rfl rfl rfl rfl ?_
  refine wq_k 15 1 d174_14 (by decide) rfl ?_
  refine wq_a 16 d174_15 rfl rfl ?_
  rw [nI_1]
  refine wq_v 19 [_] d174_16 rfl rfl m63 rfl rfl (Nat.le_of_ble_eq_true rfl) rfl (ck63 (cr_S h) (by omega) ?_)
  refine wq_s 21 d174_19 rfl rfl (Nat.le_of_ble_eq_true rfl) rfl rfl ?_
  refine wq_l 23 d174_21 rfl rfl rfl rfl ?_
  refine wq_l 24 d174_23 rfl rfl rfl rfl ?_
  refine wq_b 39 27 d174_24 rfl (by decide) rfl (fun c24 => absurd c24 (by rw [i_le, ez, es]; omega)) (fun c24 => ?_)
  refine wq_l 28 d174_27 rfl rfl rfl rfl ?_
  refine wq_gr (ci := 8) (j := 0) (q := 3) 31 d174_28 rfl rfl rfl rfl ?_
  refine wq_l 33 d174_31 rfl rfl rfl rfl ?_
  refine wq_v 36 [_] d174_33 rfl rfl m63 rfl rfl (Nat.le_of_ble_eq_true rfl) rfl (ck63 (cr_S h) (by omega) ?_)
  refine wq_g 40 d174_36 (by decide) ?_
  refine wq_s 42 d174_40 rfl rfl (Nat.le_of_ble_eq_true rfl) rfl rfl ?_
  refine wq_l 43 d174_42 rfl rfl rfl rfl ?_
  refine wq_gr (ci := 8) (j := 0) (q := 3) 46 d174_43 rfl rfl rfl rfl ?_
  refine wq_l 47 d174_46 rfl rfl rfl rfl ?_
  refine wq_k 48 1 d174_47 (by decide) rfl ?_
  refine wq_a 49 d174_48 rfl rfl ?_
  rw [nI_1]
  refine wq_v 52 [_] d174_49 rfl rfl m71 rfl rfl (Nat.le_of_ble_eq_true rfl) rfl (ck71 h (by omega) ?_)
  refine wq_s 54 d174_52 rfl rfl (Nat.le_of_ble_eq_true rfl) rfl rfl ?_
  refine wq_l 56 d174_54 rfl rfl rfl rfl ?_
  refine wq_l 57 d174_56 rfl rfl rfl rfl ?_
  refine wq_b 72 60 d174_57 rfl (by decide) rfl (fun c57 => absurd c57 (by rw [i_le, ez, es]; omega)) (fun c57 => ?_)
  refine wq_l 61 d174_60 rfl rfl rfl rfl ?_
  refine wq_gr (ci := 8) (j := 0) (q := 3) 64 d174_61 rfl rfl rfl rfl ?_
  refine wq_l 66 d174_64 rfl rfl rfl rfl ?_
  refine wq_v 69 [_] d174_66 rfl rfl m71 rfl rfl (Nat.le_of_ble_eq_true rfl) rfl (ck71 h (by omega) ?_)
  refine wq_g 73 d174_69 (by decide) ?_
  refine wq_s 75 d174_73 rfl rfl (Nat.le_of_ble_eq_true rfl) rfl rfl ?_
  refine wq_l 77 d174_75 rfl rfl rfl rfl ?_
  refine wq_l 78 d174_77 rfl rfl rfl rfl ?_
  refine wq_b 93 81 d174_78 rfl (by decide) rfl (fun c78 => absurd c78 (by rw [i_le, ez, et]; omega)) (fun c78 => ?_)
  refine wq_l 82 d174_81 rfl rfl rfl rfl ?_
  refine wq_gr (ci := 8) (j := 0) (q := 3) 85 d174_82 rfl rfl rfl rfl ?_
  refine wq_l 87 d174_85 rfl rfl rfl rfl ?_
  refine wq_v 90 [_] d174_87 rfl rfl m71 rfl rfl (Nat.le_of_ble_eq_true rfl) rfl (ck71 h (by omega) ?_)
  refine wq_g 94 d174_90 (by decide) ?_
  refine wq_s 96 d174_94 rfl rfl (Nat.le_of_ble_eq_true rfl) rfl rfl ?_
  refine wq_l 97 d174_96 rfl rfl rfl rfl ?_
  refine wq_tw [(0, 148), (1, 156), (2, 156), (3, 164), (4, 177), (5, 194), (6, 194), (7, 217), (8, 219)] 221 d174_97 (by decide) (List.forall_mem_cons.mpr ⟨fun e97 => ?_, List.forall_mem_cons.mpr ⟨fun e97 => ?_, List.forall_mem_cons.mpr ⟨fun e97 => ?_, List.forall_mem_cons.mpr ⟨fun e97 => ?_, List.forall_mem_cons.mpr ⟨fun e97 => ?_, List.forall_mem_cons.mpr ⟨fun e97 => ?_, List.forall_mem_cons.mpr ⟨fun e97 => ?_, List.forall_mem_cons.mpr ⟨fun e97 => ?_, List.forall_mem_cons.mpr ⟨fun e97 => ?_, fun _ h => absurd h List.not_mem_nil⟩⟩⟩⟩⟩⟩⟩⟩⟩) (fun e97 => ?_)
  · -- case 0
    exfalso
    have e97 : f = 0 := hp_inj (by omega) (by omega) e97
    subst e97
    exact absurd ho (by decide)
    
  · -- case 1
    exfalso
    have e97 : f = 1 := hp_inj (by omega) (by omega) e97
    subst e97
    exact absurd ho (by decide)
    
  · -- case 2
    exfalso
    have e97 : f = 2 := hp_inj (by omega) (by omega) e97
    subst e97
    exact absurd ho (by decide)
    
  · -- case 3
    have e97 : f = 3 := hp_inj (by omega) (by omega) e97
    subst e97
    refine wq_l 166 d174_164 rfl rfl rfl rfl ?_
    refine wq_l 168 d174_166 rfl rfl rfl rfl ?_
    refine wq_vs 171 [_, _] d174_168 rfl rfl m175 rfl (Nat.le_of_ble_eq_true rfl) rfl (sp175 ?_)
    refine wq_l 173 d174_171 rfl rfl rfl rfl ?_
    refine wq_vs 176 [_, _] d174_173 rfl rfl m175 rfl (Nat.le_of_ble_eq_true rfl) rfl (sp175 ?_)
    refine wq_ri d174_176 (rfl) ?_
    exact hQ
  · -- case 4
    have e97 : f = 4 := hp_inj (by omega) (by omega) e97
    subst e97
    refine wq_l 179 d174_177 rfl rfl rfl rfl ?_
    refine wq_b 192 182 d174_179 rfl (by decide) rfl (fun c179 => ?_) (fun c179 => ?_)
    · -- pc 192
      refine wq_k 193 (-1) d174_192 (by decide) rfl ?_
      refine wq_ri d174_193 (rfl) ?_
      rw [rl_std4, if_neg c179] at hQ; exact hQ
    · -- pc 182
      refine wq_l 184 d174_182 rfl rfl rfl rfl ?_
      refine wq_l 186 d174_184 rfl rfl rfl rfl ?_
      refine wq_vs 189 [_, _] d174_186 rfl rfl m176 rfl (Nat.le_of_ble_eq_true rfl) rfl (sp176 ?_)
      refine wq_g 193 d174_189 (by decide) ?_
      refine wq_ri d174_193 (rfl) ?_
      rw [rl_std4, if_pos (Classical.not_not.mp c179)] at hQ; exact hQ
  · -- case 5
    exfalso
    have e97 : f = 5 := hp_inj (by omega) (by omega) e97
    subst e97
    exact absurd ho (by decide)
    
  · -- case 6
    exfalso
    have e97 : f = 6 := hp_inj (by omega) (by omega) e97
    subst e97
    exact absurd ho (by decide)
    
  · -- case 7
    exfalso
    have e97 : f = 7 := hp_inj (by omega) (by omega) e97
    subst e97
    exact absurd ho (by decide)
    
  · -- case 8
    exfalso
    have e97 : f = 8 := hp_inj (by omega) (by omega) e97
    subst e97
    exact absurd ho (by decide)
    
  · -- default
    have w97_0 := e97 (0, 148) (by decide)
    have w97_1 := e97 (1, 156) (by decide)
    have w97_2 := e97 (2, 156) (by decide)
    have w97_3 := e97 (3, 164) (by decide)
    have w97_4 := e97 (4, 177) (by decide)
    have w97_5 := e97 (5, 194) (by decide)
    have w97_6 := e97 (6, 194) (by decide)
    have w97_7 := e97 (7, 217) (by decide)
    have w97_8 := e97 (8, 219) (by decide)
    exfalso
    simp only [i_eq, ef, Int32.reduceToInt] at w97_0 w97_1 w97_2 w97_3 w97_4 w97_5 w97_6 w97_7 w97_8
    have : f = 9 := by omega
    subst this
    exact absurd ho (by decide)
