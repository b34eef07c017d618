theorem d79_0 : decode prog_6_method_3_code 0 = .ok (.aload_n 0, 1) := by decide +kernel
theorem d79_1 : decode prog_6_method_3_code 1 = .ok (.getfield 9, 3) := by decide +kernel
theorem d79_4 : decode prog_6_method_3_code 4 = .ok (.invokevirtual 58, 3) := by decide +kernel
theorem d79_7 : decode prog_6_method_3_code 7 = .ok (.istore_n 1, 1) := by decide +kernel
theorem d79_8 : decode prog_6_method_3_code 8 = .ok (.iload_n 1, 1) := by decide +kernel
theorem d79_9 : decode prog_6_method_3_code 9 = .ok (.ifCond .eq 15, 3) := by decide +kernel
theorem d79_12 : decode prog_6_method_3_code 12 = .ok (.iload_n 1, 1) := by decide +kernel
theorem d79_13 : decode prog_6_method_3_code 13 = .ok (.iconst 2, 1) := by decide +kernel
theorem d79_14 : decode prog_6_method_3_code 14 = .ok (.if_icmp .eq 10, 3) := by decide +kernel
theorem d79_17 : decode prog_6_method_3_code 17 = .ok (.iload_n 1, 1) := by decide +kernel
theorem d79_18 : decode prog_6_method_3_code 18 = .ok (.iconst 4, 1) := by decide +kernel
theorem d79_19 : decode prog_6_method_3_code 19 = .ok (.if_icmp .eq 5, 3) := by decide +kernel
theorem d79_22 : decode prog_6_method_3_code 22 = .ok (.iconst 0, 1) := by decide +kernel
theorem d79_23 : decode prog_6_method_3_code 23 = .ok (.ireturn, 1) := by decide +kernel
theorem d79_24 : decode prog_6_method_3_code 24 = .ok (.aload_n 0, 1) := by decide +kernel
theorem d79_25 : decode prog_6_method_3_code 25 = .ok (.getfield 15, 3) := by decide +kernel
theorem d79_28 : decode prog_6_method_3_code 28 = .ok (.iload_n 1, 1) := by decide +kernel
theorem d79_29 : decode prog_6_method_3_code 29 = .ok (.invokestatic 61, 3) := by decide +kernel
theorem d79_32 : decode prog_6_method_3_code 32 = .ok (.aload_n 0, 1) := by decide +kernel
theorem d79_33 : decode prog_6_method_3_code 33 = .ok (.getfield 9, 3) := by decide +kernel
theorem d79_36 : decode prog_6_method_3_code 36 = .ok (.invokevirtual 65, 3) := by decide +kernel
theorem d79_39 : decode prog_6_method_3_code 39 = .ok (.iconst 0, 1) := by decide +kernel
theorem d79_40 : decode prog_6_method_3_code 40 = .ok (.invokevirtual 34, 3) := by decide +kernel
theorem d79_43 : decode prog_6_method_3_code 43 = .ok (.istore_n 2, 1) := by decide +kernel
theorem d79_44 : decode prog_6_method_3_code 44 = .ok (.aload_n 0, 1) := by decide +kernel
theorem d79_45 : decode prog_6_method_3_code 45 = .ok (.getfield 9, 3) := by decide +kernel
theorem d79_48 : decode prog_6_method_3_code 48 = .ok (.invokevirtual 68, 3) := by decide +kernel
theorem d79_51 : decode prog_6_method_3_code 51 = .ok (.aload_n 0, 1) := by decide +kernel
theorem d79_52 : decode prog_6_method_3_code 52 = .ok (.getfield 15, 3) := by decide +kernel
theorem d79_55 : decode prog_6_method_3_code 55 = .ok (.iload_n 2, 1) := by decide +kernel
theorem d79_56 : decode prog_6_method_3_code 56 = .ok (.aload_n 0, 1) := by decide +kernel
theorem d79_57 : decode prog_6_method_3_code 57 = .ok (.getfield 9, 3) := by decide +kernel
theorem d79_60 : decode prog_6_method_3_code 60 = .ok (.invokevirtual 71, 3) := by decide +kernel
theorem d79_63 : decode prog_6_method_3_code 63 = .ok (.invokevirtual 74, 3) := by decide +kernel
theorem d79_66 : decode prog_6_method_3_code 66 = .ok (.aload_n 0, 1) := by decide +kernel
theorem d79_67 : decode prog_6_method_3_code 67 = .ok (.getfield 9, 3) := by decide +kernel
theorem d79_70 : decode prog_6_method_3_code 70 = .ok (.bipush 41, 2) := by decide +kernel
theorem d79_72 : decode prog_6_method_3_code 72 = .ok (.invokevirtual 78, 3) := by decide +kernel
theorem d79_75 : decode prog_6_method_3_code 75 = .ok (.iload_n 1, 1) := by decide +kernel
theorem d79_76 : decode prog_6_method_3_code 76 = .ok (.ifCond .ne 16, 3) := by decide +kernel
theorem d79_79 : decode prog_6_method_3_code 79 = .ok (.aload_n 0, 1) := by decide +kernel
theorem d79_80 : decode prog_6_method_3_code 80 = .ok (.getfield 9, 3) := by decide +kernel
theorem d79_83 : decode prog_6_method_3_code 83 = .ok (.bipush 58, 2) := by decide +kernel
theorem d79_85 : decode prog_6_method_3_code 85 = .ok (.invokevirtual 78, 3) := by decide +kernel
theorem d79_88 : decode prog_6_method_3_code 88 = .ok (.aload_n 0, 1) := by decide +kernel
theorem d79_89 : decode prog_6_method_3_code 89 = .ok (.invokevirtual 81, 3) := by decide +kernel
theorem d79_92 : decode prog_6_method_3_code 92 = .ok (.iconst 1, 1) := by decide +kernel
theorem d79_93 : decode prog_6_method_3_code 93 = .ok (.istore_n 3, 1) := by decide +kernel
theorem d79_94 : decode prog_6_method_3_code 94 = .ok (.sipush 8192, 3) := by decide +kernel
theorem d79_97 : decode prog_6_method_3_code 97 = .ok (.istore 4, 2) := by decide +kernel
theorem d79_99 : decode prog_6_method_3_code 99 = .ok (.iload_n 3, 1) := by decide +kernel
theorem d79_100 : decode prog_6_method_3_code 100 = .ok (.ifCond .eq 19, 3) := by decide +kernel
theorem d79_103 : decode prog_6_method_3_code 103 = .ok (.iload 4, 2) := by decide +kernel
theorem d79_105 : decode prog_6_method_3_code 105 = .ok (.ifCond .le 14, 3) := by decide +kernel
theorem d79_108 : decode prog_6_method_3_code 108 = .ok (.aload_n 0, 1) := by decide +kernel
theorem d79_109 : decode prog_6_method_3_code 109 = .ok (.invokevirtual 84, 3) := by decide +kernel
theorem d79_112 : decode prog_6_method_3_code 112 = .ok (.istore_n 3, 1) := by decide +kernel
theorem d79_113 : decode prog_6_method_3_code 113 = .ok (.iinc 4 (-1), 3) := by decide +kernel
theorem d79_116 : decode prog_6_method_3_code 116 = .ok (.goto (-17), 3) := by decide +kernel
theorem d79_119 : decode prog_6_method_3_code 119 = .ok (.aload_n 0, 1) := by decide +kernel
theorem d79_120 : decode prog_6_method_3_code 120 = .ok (.getfield 9, 3) := by decide +kernel
theorem d79_123 : decode prog_6_method_3_code 123 = .ok (.bipush 37, 2) := by decide +kernel
theorem d79_125 : decode prog_6_method_3_code 125 = .ok (.invokevirtual 48, 3) := by decide +kernel
theorem d79_128 : decode prog_6_method_3_code 128 = .ok (.ifCond .eq 10, 3) := by decide +kernel
theorem d79_131 : decode prog_6_method_3_code 131 = .ok (.aload_n 0, 1) := by decide +kernel
theorem d79_132 : decode prog_6_method_3_code 132 = .ok (.invokevirtual 87, 3) := by decide +kernel
theorem d79_135 : decode prog_6_method_3_code 135 = .ok (.goto 7, 3) := by decide +kernel
theorem d79_138 : decode prog_6_method_3_code 138 = .ok (.aload_n 0, 1) := by decide +kernel
theorem d79_139 : decode prog_6_method_3_code 139 = .ok (.invokevirtual 90, 3) := by decide +kernel
theorem d79_142 : decode prog_6_method_3_code 142 = .ok (.aload_n 0, 1) := by decide +kernel
theorem d79_143 : decode prog_6_method_3_code 143 = .ok (.getfield 9, 3) := by decide +kernel
theorem d79_146 : decode prog_6_method_3_code 146 = .ok (.iload_n 1, 1) := by decide +kernel
theorem d79_147 : decode prog_6_method_3_code 147 = .ok (.iconst 1, 1) := by decide +kernel
theorem d79_148 : decode prog_6_method_3_code 148 = .ok (.iadd, 1) := by decide +kernel
theorem d79_149 : decode prog_6_method_3_code 149 = .ok (.invokevirtual 78, 3) := by decide +kernel
theorem d79_152 : decode prog_6_method_3_code 152 = .ok (.aload_n 0, 1) := by decide +kernel
theorem d79_153 : decode prog_6_method_3_code 153 = .ok (.getfield 15, 3) := by decide +kernel
theorem d79_156 : decode prog_6_method_3_code 156 = .ok (.iload_n 2, 1) := by decide +kernel
theorem d79_157 : decode prog_6_method_3_code 157 = .ok (.invokevirtual 42, 3) := by decide +kernel
theorem d79_160 : decode prog_6_method_3_code 160 = .ok (.iconst 1, 1) := by decide +kernel
theorem d79_161 : decode prog_6_method_3_code 161 = .ok (.ireturn, 1) := by decide +kernel
theorem m79 : pm_m 79 = some (⟨"TypeRules$Parser", "readBlock", "()Z"⟩, prog_6_method_3_code, 5, (some FieldType.boolean), 4, 0, 5) := rfl
theorem d78_0 : decode prog_6_method_2_code 0 = .ok (.aload_n 0, 1) := by decide +kernel
theorem d78_1 : decode prog_6_method_2_code 1 = .ok (.getfield 15, 3) := by decide +kernel
theorem d78_4 : decode prog_6_method_2_code 4 = .ok (.invokevirtual 27, 3) := by decide +kernel
theorem d78_7 : decode prog_6_method_2_code 7 = .ok (.aload_n 0, 1) := by decide +kernel
theorem d78_8 : decode prog_6_method_2_code 8 = .ok (.iconst 0, 1) := by decide +kernel
theorem d78_9 : decode prog_6_method_2_code 9 = .ok (.putfield 19, 3) := by decide +kernel
theorem d78_12 : decode prog_6_method_2_code 12 = .ok (.aload_n 0, 1) := by decide +kernel
theorem d78_13 : decode prog_6_method_2_code 13 = .ok (.iconst 0, 1) := by decide +kernel
theorem d78_14 : decode prog_6_method_2_code 14 = .ok (.putfield 23, 3) := by decide +kernel
theorem d78_17 : decode prog_6_method_2_code 17 = .ok (.aload_n 0, 1) := by decide +kernel
theorem d78_18 : decode prog_6_method_2_code 18 = .ok (.getfield 15, 3) := by decide +kernel
theorem d78_21 : decode prog_6_method_2_code 21 = .ok (.iconst 0, 1) := by decide +kernel
theorem d78_22 : decode prog_6_method_2_code 22 = .ok (.iconst 0, 1) := by decide +kernel
theorem d78_23 : decode prog_6_method_2_code 23 = .ok (.iconst 0, 1) := by decide +kernel
theorem d78_24 : decode prog_6_method_2_code 24 = .ok (.invokevirtual 34, 3) := by decide +kernel
theorem d78_27 : decode prog_6_method_2_code 27 = .ok (.istore_n 1, 1) := by decide +kernel
theorem d78_28 : decode prog_6_method_2_code 28 = .ok (.iconst 1, 1) := by decide +kernel
theorem d78_29 : decode prog_6_method_2_code 29 = .ok (.istore_n 2, 1) := by decide +kernel
theorem d78_30 : decode prog_6_method_2_code 30 = .ok (.sipush 8192, 3) := by decide +kernel
theorem d78_33 : decode prog_6_method_2_code 33 = .ok (.istore_n 3, 1) := by decide +kernel
theorem d78_34 : decode prog_6_method_2_code 34 = .ok (.iload_n 2, 1) := by decide +kernel
theorem d78_35 : decode prog_6_method_2_code 35 = .ok (.ifCond .eq 18, 3) := by decide +kernel
theorem d78_38 : decode prog_6_method_2_code 38 = .ok (.iload_n 3, 1) := by decide +kernel
theorem d78_39 : decode prog_6_method_2_code 39 = .ok (.ifCond .le 14, 3) := by decide +kernel
theorem d78_42 : decode prog_6_method_2_code 42 = .ok (.aload_n 0, 1) := by decide +kernel
theorem d78_43 : decode prog_6_method_2_code 43 = .ok (.invokevirtual 38, 3) := by decide +kernel
theorem d78_46 : decode prog_6_method_2_code 46 = .ok (.istore_n 2, 1) := by decide +kernel
theorem d78_47 : decode prog_6_method_2_code 47 = .ok (.iinc 3 (-1), 3) := by decide +kernel
theorem d78_50 : decode prog_6_method_2_code 50 = .ok (.goto (-16), 3) := by decide +kernel
theorem d78_53 : decode prog_6_method_2_code 53 = .ok (.aload_n 0, 1) := by decide +kernel
theorem d78_54 : decode prog_6_method_2_code 54 = .ok (.getfield 15, 3) := by decide +kernel
theorem d78_57 : decode prog_6_method_2_code 57 = .ok (.iload_n 1, 1) := by decide +kernel
theorem d78_58 : decode prog_6_method_2_code 58 = .ok (.invokevirtual 42, 3) := by decide +kernel
theorem d78_61 : decode prog_6_method_2_code 61 = .ok (.aload_n 0, 1) := by decide +kernel
theorem d78_62 : decode prog_6_method_2_code 62 = .ok (.getfield 23, 3) := by decide +kernel
theorem d78_65 : decode prog_6_method_2_code 65 = .ok (.ifCond .eq 6, 3) := by decide +kernel
theorem d78_68 : decode prog_6_method_2_code 68 = .ok (.bipush 7, 2) := by decide +kernel
theorem d78_70 : decode prog_6_method_2_code 70 = .ok (.ireturn, 1) := by decide +kernel
theorem d78_71 : decode prog_6_method_2_code 71 = .ok (.aload_n 0, 1) := by decide +kernel
theorem d78_72 : decode prog_6_method_2_code 72 = .ok (.getfield 9, 3) := by decide +kernel
theorem d78_75 : decode prog_6_method_2_code 75 = .ok (.bipush 44, 2) := by decide +kernel
theorem d78_77 : decode prog_6_method_2_code 77 = .ok (.invokevirtual 48, 3) := by decide +kernel
theorem d78_80 : decode prog_6_method_2_code 80 = .ok (.ifCond .eq 7, 3) := by decide +kernel
theorem d78_83 : decode prog_6_method_2_code 83 = .ok (.iconst 0, 1) := by decide +kernel
theorem d78_84 : decode prog_6_method_2_code 84 = .ok (.goto 10, 3) := by decide +kernel
theorem d78_87 : decode prog_6_method_2_code 87 = .ok (.aload_n 0, 1) := by decide +kernel
theorem d78_88 : decode prog_6_method_2_code 88 = .ok (.getfield 9, 3) := by decide +kernel
theorem d78_91 : decode prog_6_method_2_code 91 = .ok (.invokevirtual 54, 3) := by decide +kernel
theorem d78_94 : decode prog_6_method_2_code 94 = .ok (.ireturn, 1) := by decide +kernel
theorem m78 : pm_m 78 = some (⟨"TypeRules$Parser", "readText", "()I"⟩, prog_6_method_2_code, 4, (some FieldType.int), 4, 0, 5) := rfl
/-! STATEMENTS, BODIES -/
theorem pp95 {d : Nat} {T : pg_T} {n : Nat} {σ0 σ : pm_S} {c : pg_C} {l s : List pg_N} {Q : Option Value → pm_S → Prop} {B : pg_P} (hK : pc_K T n σ0) (hd : 620 ≤ d) (hO : pg_O T B) (hDB : pg_D T B) (hB : pg_live T c → ∀ c', pg_lb T (c.2.2 + 1) c' → pb_B T n σ0 (d + 5) B c') (hR : pc_R T n σ0 σ c l s) (hQ : ∀ σ', pc_R T n σ0 σ' (pg_ite (pg_any T [57, 41, 16, 21, 23, 28, 29]) (pg_stmt T B) pg_nil c).1 l (s ++ (pg_ite (pg_any T [57, 41, 16, 21, 23, 28, 29]) (pg_stmt T B) pg_nil c).2) → Q (some (.int (b2 (pg_any T [57, 41, 16, 21, 23, 28, 29] c)))) σ') : pm_call pm_Y0 (d + 7) 95 [.ref 4] σ Q := by
  have kq : ∀ k, k < 100 → (nI (pg_k T c) = nI k ↔ pg_k T c = k) := fun k hk => pc_kq hK hk
  refine wq_m m95 (Nat.le_of_ble_eq_true rfl) (by decide) rfl ?_
  refine wq_l 1 d95_0 rfl rfl rfl rfl ?_
  refine wq_gr (ci := 4) (j := 0) (q := 2) 4 d95_1 rfl rfl rfl rfl ?_
  refine wq_v 7 [] d95_4 rfl rfl m45 rfl rfl (Nat.le_of_ble_eq_true rfl) rfl (pk45 hR ?_)
  refine wq_lsw [(16, 101), (21, 108), (23, 115), (28, 122), (29, 150), (41, 75), (57, 72)] 178 d95_7 (by decide) (List.forall_mem_cons.mpr ⟨fun e7 => ?_, List.forall_mem_cons.mpr ⟨fun e7 => ?_, List.forall_mem_cons.mpr ⟨fun e7 => ?_, List.forall_mem_cons.mpr ⟨fun e7 => ?_, List.forall_mem_cons.mpr ⟨fun e7 => ?_, List.forall_mem_cons.mpr ⟨fun e7 => ?_, List.forall_mem_cons.mpr ⟨fun e7 => ?_, fun _ h => absurd h List.not_mem_nil⟩⟩⟩⟩⟩⟩⟩) (fun e7 => ?_)
  · -- case 16
    have hk := (kq 16 (by decide)).mp e7
    have hlc := pg_kl hk (by decide)
    have ha : pg_any T [57, 41, 16, 21, 23, 28, 29] c = true := pg_any3 hk (by decide)
    rw [ha] at hQ
    have i57 : pg_is T 57 c = false := pg_isn hk (by decide)
    have i41 : pg_is T 41 c = false := pg_isn hk (by decide)
    have i16 : pg_is T 16 c = true := pg_isy hk
    have i21 : pg_is T 21 c = false := pg_isn hk (by decide)
    have i23 : pg_is T 23 c = false := pg_isn hk (by decide)
    have i28 : pg_is T 28 c = false := pg_isn hk (by decide)
    refine wq_l 102 d95_101 rfl rfl rfl rfl ?_
    refine wq_v 105 [] d95_102 rfl rfl m104 rfl rfl (Nat.le_of_ble_eq_true rfl) rfl (pp104 hK hd hO hDB (hB hlc.1) hlc hR (fun σ102 h102 => ?_))
    refine wq_g 180 d95_105 (by decide) ?_
    refine wq_l 181 d95_180 rfl rfl rfl rfl ?_
    refine wq_gr (ci := 4) (j := 0) (q := 2) 184 d95_181 rfl rfl rfl rfl ?_
    refine wq_k 186 57 d95_184 (by decide) rfl ?_
    refine wq_v 189 [_] d95_186 rfl rfl m49 rfl rfl (Nat.le_of_ble_eq_true rfl) rfl (pk49 (k := 57) hK (by decide) h102 (fun σ186 h186 => ?_))
    refine wq_k 190 1 d95_189 (by decide) rfl ?_
    refine wq_ri d95_190 (rfl) ?_
    exact hQ _ (pc_e h186 (by first | (simp only [pg_stmt, pg_ite, pg_seq, pg_tok, pg_nil, pg_leaf, if_true, if_false, Bool.false_eq_true, ha, i57, i41, i16, i21, i23, i28]; done) | rfl) (by simp only [pg_stmt, pg_ite, pg_seq, pg_tok, pg_nil, pg_leaf, List.append_assoc, List.nil_append, List.append_nil, List.cons_append, List.singleton_append, List.length_append, List.length_cons, List.length_nil, List.length_singleton, if_true, if_false, Bool.false_eq_true, ha, i57, i41, i16, i21, i23, i28]; done))
  · -- case 21
    have hk := (kq 21 (by decide)).mp e7
    have hlc := pg_kl hk (by decide)
    have ha : pg_any T [57, 41, 16, 21, 23, 28, 29] c = true := pg_any3 hk (by decide)
    rw [ha] at hQ
    have i57 : pg_is T 57 c = false := pg_isn hk (by decide)
    have i41 : pg_is T 41 c = false := pg_isn hk (by decide)
    have i16 : pg_is T 16 c = false := pg_isn hk (by decide)
    have i21 : pg_is T 21 c = true := pg_isy hk
    have i23 : pg_is T 23 c = false := pg_isn hk (by decide)
    have i28 : pg_is T 28 c = false := pg_isn hk (by decide)
    refine wq_l 109 d95_108 rfl rfl rfl rfl ?_
    refine wq_v 112 [] d95_109 rfl rfl m105 rfl rfl (Nat.le_of_ble_eq_true rfl) rfl (pp105 hK hd hO hDB (hB hlc.1) hlc hR (fun σ109 h109 => ?_))
    refine wq_g 180 d95_112 (by decide) ?_
    refine wq_l 181 d95_180 rfl rfl rfl rfl ?_
    refine wq_gr (ci := 4) (j := 0) (q := 2) 184 d95_181 rfl rfl rfl rfl ?_
    refine wq_k 186 57 d95_184 (by decide) rfl ?_
    refine wq_v 189 [_] d95_186 rfl rfl m49 rfl rfl (Nat.le_of_ble_eq_true rfl) rfl (pk49 (k := 57) hK (by decide) h109 (fun σ186 h186 => ?_))
    refine wq_k 190 1 d95_189 (by decide) rfl ?_
    refine wq_ri d95_190 (rfl) ?_
    exact hQ _ (pc_e h186 (by first | (simp only [pg_stmt, pg_ite, pg_seq, pg_tok, pg_nil, pg_leaf, if_true, if_false, Bool.false_eq_true, ha, i57, i41, i16, i21, i23, i28]; done) | rfl) (by simp only [pg_stmt, pg_ite, pg_seq, pg_tok, pg_nil, pg_leaf, List.append_assoc, List.nil_append, List.append_nil, List.cons_append, List.singleton_append, List.length_append, List.length_cons, List.length_nil, List.length_singleton, if_true, if_false, Bool.false_eq_true, ha, i57, i41, i16, i21, i23, i28]; done))
  · -- case 23
    have hk := (kq 23 (by decide)).mp e7
    have hlc := pg_kl hk (by decide)
    have ha : pg_any T [57, 41, 16, 21, 23, 28, 29] c = true := pg_any3 hk (by decide)
    rw [ha] at hQ
    have i57 : pg_is T 57 c = false := pg_isn hk (by decide)
    have i41 : pg_is T 41 c = false := pg_isn hk (by decide)
    have i16 : pg_is T 16 c = false := pg_isn hk (by decide)
    have i21 : pg_is T 21 c = false := pg_isn hk (by decide)
    have i23 : pg_is T 23 c = true := pg_isy hk
    have i28 : pg_is T 28 c = false := pg_isn hk (by decide)
    refine wq_l 116 d95_115 rfl rfl rfl rfl ?_
    refine wq_v 119 [] d95_116 rfl rfl m108 rfl rfl (Nat.le_of_ble_eq_true rfl) rfl (pp108 hK hd hO hDB (hB hlc.1) hlc hR (fun σ116 h116 => ?_))
    refine wq_g 180 d95_119 (by decide) ?_
    refine wq_l 181 d95_180 rfl rfl rfl rfl ?_
    refine wq_gr (ci := 4) (j := 0) (q := 2) 184 d95_181 rfl rfl rfl rfl ?_
    refine wq_k 186 57 d95_184 (by decide) rfl ?_
    refine wq_v 189 [_] d95_186 rfl rfl m49 rfl rfl (Nat.le_of_ble_eq_true rfl) rfl (pk49 (k := 57) hK (by decide) h116 (fun σ186 h186 => ?_))
    refine wq_k 190 1 d95_189 (by decide) rfl ?_
    refine wq_ri d95_190 (rfl) ?_
    exact hQ _ (pc_e h186 (by first | (simp only [pg_stmt, pg_ite, pg_seq, pg_tok, pg_nil, pg_leaf, if_true, if_false, Bool.false_eq_true, ha, i57, i41, i16, i21, i23, i28]; done) | rfl) (by simp only [pg_stmt, pg_ite, pg_seq, pg_tok, pg_nil, pg_leaf, List.append_assoc, List.nil_append, List.append_nil, List.cons_append, List.singleton_append, List.length_append, List.length_cons, List.length_nil, List.length_singleton, if_true, if_false, Bool.false_eq_true, ha, i57, i41, i16, i21, i23, i28]; done))
  · -- case 28
    have hk := (kq 28 (by decide)).mp e7
    have hlc := pg_kl hk (by decide)
    have ha : pg_any T [57, 41, 16, 21, 23, 28, 29] c = true := pg_any3 hk (by decide)
    rw [ha] at hQ
    have i57 : pg_is T 57 c = false := pg_isn hk (by decide)
    have i41 : pg_is T 41 c = false := pg_isn hk (by decide)
    have i16 : pg_is T 16 c = false := pg_isn hk (by decide)
    have i21 : pg_is T 21 c = false := pg_isn hk (by decide)
    have i23 : pg_is T 23 c = false := pg_isn hk (by decide)
    have i28 : pg_is T 28 c = true := pg_isy hk
    refine wq_l 123 d95_122 rfl rfl rfl rfl ?_
    refine wq_gr (ci := 4) (j := 1) (q := 3) 126 d95_123 rfl rfl rfl rfl ?_
    refine wq_k 128 20 d95_126 (by decide) rfl ?_
    refine wq_l 129 d95_128 rfl rfl rfl rfl ?_
    refine wq_gr (ci := 4) (j := 0) (q := 2) 132 d95_129 rfl rfl rfl rfl ?_
    refine wq_v 135 [] d95_132 rfl rfl m46 rfl rfl (Nat.le_of_ble_eq_true rfl) rfl (pk46 hK hR ?_)
    refine wq_k 136 0 d95_135 (by decide) rfl ?_
    refine wq_v 139 [_, _, _] d95_136 rfl rfl m57 rfl rfl (Nat.le_of_ble_eq_true rfl) rfl (pk57 (k := 20) hR (fun σ136 x136 h136 => ?_))
    refine wq_a 140 d95_139 rfl rfl ?_
    refine wq_l 141 d95_140 rfl rfl rfl rfl ?_
    refine wq_gr (ci := 4) (j := 0) (q := 2) 144 d95_141 rfl rfl rfl rfl ?_
    refine wq_v 147 [] d95_144 rfl rfl m47 rfl rfl (Nat.le_of_ble_eq_true rfl) rfl (pk47 hK h136 (hlc).1 (hlc).2 (fun σ144 h144 => ?_))
    refine wq_g 180 d95_147 (by decide) ?_
    refine wq_l 181 d95_180 rfl rfl rfl rfl ?_
    refine wq_gr (ci := 4) (j := 0) (q := 2) 184 d95_181 rfl rfl rfl rfl ?_
    refine wq_k 186 57 d95_184 (by decide) rfl ?_
    refine wq_v 189 [_] d95_186 rfl rfl m49 rfl rfl (Nat.le_of_ble_eq_true rfl) rfl (pk49 (k := 57) hK (by decide) h144 (fun σ186 h186 => ?_))
    refine wq_k 190 1 d95_189 (by decide) rfl ?_
    refine wq_ri d95_190 (rfl) ?_
    exact hQ _ (pc_e h186 (by first | (simp only [pg_stmt, pg_ite, pg_seq, pg_tok, pg_nil, pg_leaf, if_true, if_false, Bool.false_eq_true, ha, i57, i41, i16, i21, i23, i28]; done) | rfl) (by simp only [pg_stmt, pg_ite, pg_seq, pg_tok, pg_nil, pg_leaf, List.append_assoc, List.nil_append, List.append_nil, List.cons_append, List.singleton_append, List.length_append, List.length_cons, List.length_nil, List.length_singleton, if_true, if_false, Bool.false_eq_true, ha, i57, i41, i16, i21, i23, i28]; done))
  · -- case 29
    have hk := (kq 29 (by decide)).mp e7
    have hlc := pg_kl hk (by decide)
    have ha : pg_any T [57, 41, 16, 21, 23, 28, 29] c = true := pg_any3 hk (by decide)
    rw [ha] at hQ
    have i57 : pg_is T 57 c = false := pg_isn hk (by decide)
    have i41 : pg_is T 41 c = false := pg_isn hk (by decide)
    have i16 : pg_is T 16 c = false := pg_isn hk (by decide)
    have i21 : pg_is T 21 c = false := pg_isn hk (by decide)
    have i23 : pg_is T 23 c = false := pg_isn hk (by decide)
    have i28 : pg_is T 28 c = false := pg_isn hk (by decide)
    refine wq_l 151 d95_150 rfl rfl rfl rfl ?_
    refine wq_gr (ci := 4) (j := 1) (q := 3) 154 d95_151 rfl rfl rfl rfl ?_
    refine wq_k 156 21 d95_154 (by decide) rfl ?_
    refine wq_l 157 d95_156 rfl rfl rfl rfl ?_
    refine wq_gr (ci := 4) (j := 0) (q := 2) 160 d95_157 rfl rfl rfl rfl ?_
    refine wq_v 163 [] d95_160 rfl rfl m46 rfl rfl (Nat.le_of_ble_eq_true rfl) rfl (pk46 hK hR ?_)
    refine wq_k 164 0 d95_163 (by decide) rfl ?_
    refine wq_v 167 [_, _, _] d95_164 rfl rfl m57 rfl rfl (Nat.le_of_ble_eq_true rfl) rfl (pk57 (k := 21) hR (fun σ164 x164 h164 => ?_))
    refine wq_a 168 d95_167 rfl rfl ?_
    refine wq_l 169 d95_168 rfl rfl rfl rfl ?_
    refine wq_gr (ci := 4) (j := 0) (q := 2) 172 d95_169 rfl rfl rfl rfl ?_
    refine wq_v 175 [] d95_172 rfl rfl m47 rfl rfl (Nat.le_of_ble_eq_true rfl) rfl (pk47 hK h164 (hlc).1 (hlc).2 (fun σ172 h172 => ?_))
    refine wq_g 180 d95_175 (by decide) ?_
    refine wq_l 181 d95_180 rfl rfl rfl rfl ?_
    refine wq_gr (ci := 4) (j := 0) (q := 2) 184 d95_181 rfl rfl rfl rfl ?_
    refine wq_k 186 57 d95_184 (by decide) rfl ?_
    refine wq_v 189 [_] d95_186 rfl rfl m49 rfl rfl (Nat.le_of_ble_eq_true rfl) rfl (pk49 (k := 57) hK (by decide) h172 (fun σ186 h186 => ?_))
    refine wq_k 190 1 d95_189 (by decide) rfl ?_
    refine wq_ri d95_190 (rfl) ?_
    exact hQ _ (pc_e h186 (by first | (simp only [pg_stmt, pg_ite, pg_seq, pg_tok, pg_nil, pg_leaf, if_true, if_false, Bool.false_eq_true, ha, i57, i41, i16, i21, i23, i28]; done) | rfl) (by simp only [pg_stmt, pg_ite, pg_seq, pg_tok, pg_nil, pg_leaf, List.append_assoc, List.nil_append, List.append_nil, List.cons_append, List.singleton_append, List.length_append, List.length_cons, List.length_nil, List.length_singleton, if_true, if_false, Bool.false_eq_true, ha, i57, i41, i16, i21, i23, i28]; done))
  · -- case 41
    have hk := (kq 41 (by decide)).mp e7
    have hlc := pg_kl hk (by decide)
    have ha : pg_any T [57, 41, 16, 21, 23, 28, 29] c = true := pg_any3 hk (by decide)
    rw [ha] at hQ
    have i57 : pg_is T 57 c = false := pg_isn hk (by decide)
    have i41 : pg_is T 41 c = true := pg_isy hk
    have i16 : pg_is T 16 c = false := pg_isn hk (by decide)
    have i21 : pg_is T 21 c = false := pg_isn hk (by decide)
    have i23 : pg_is T 23 c = false := pg_isn hk (by decide)
    have i28 : pg_is T 28 c = false := pg_isn hk (by decide)
    refine wq_l 76 d95_75 rfl rfl rfl rfl ?_
    refine wq_gr (ci := 4) (j := 0) (q := 2) 79 d95_76 rfl rfl rfl rfl ?_
    refine wq_k 81 52 d95_79 (by decide) rfl ?_
    refine wq_v 84 [_] d95_81 rfl rfl m53 rfl rfl (Nat.le_of_ble_eq_true rfl) rfl (pk53 (k := 52) hK (by decide) hR ?_)
    refine wq_b 94 87 d95_84 rfl (by decide) rfl (fun c84 => ?_) (fun c84 => ?_)
    · -- pc 94
      have f84 := b2z c84
      refine wq_l 95 d95_94 rfl rfl rfl rfl ?_
      refine wq_v 98 [] d95_95 rfl rfl m103 rfl rfl (Nat.le_of_ble_eq_true rfl) rfl (pp103 hK (by omega) hlc hR (fun σ95 h95 => ?_))
      refine wq_g 180 d95_98 (by decide) ?_
      refine wq_l 181 d95_180 rfl rfl rfl rfl ?_
      refine wq_gr (ci := 4) (j := 0) (q := 2) 184 d95_181 rfl rfl rfl rfl ?_
      refine wq_k 186 57 d95_184 (by decide) rfl ?_
      refine wq_v 189 [_] d95_186 rfl rfl m49 rfl rfl (Nat.le_of_ble_eq_true rfl) rfl (pk49 (k := 57) hK (by decide) h95 (fun σ186 h186 => ?_))
      refine wq_k 190 1 d95_189 (by decide) rfl ?_
      refine wq_ri d95_190 (rfl) ?_
      exact hQ _ (pc_e h186 (by first | (simp only [pg_stmt, pg_ite, pg_seq, pg_tok, pg_nil, pg_leaf, if_true, if_false, Bool.false_eq_true, ha, i57, i41, i16, i21, i23, i28, f84]; done) | rfl) (by simp only [pg_stmt, pg_ite, pg_seq, pg_tok, pg_nil, pg_leaf, List.append_assoc, List.nil_append, List.append_nil, List.cons_append, List.singleton_append, List.length_append, List.length_cons, List.length_nil, List.length_singleton, if_true, if_false, Bool.false_eq_true, ha, i57, i41, i16, i21, i23, i28, f84]; done))
    · -- pc 87
      have f84 := b2n c84
      refine wq_l 88 d95_87 rfl rfl rfl rfl ?_
      refine wq_v 91 [] d95_88 rfl rfl m96 rfl rfl (Nat.le_of_ble_eq_true rfl) rfl (pp96 hK (by omega) hlc (pg_nxl hlc f84 (by decide)) hR (fun σ88 h88 => ?_))
      refine wq_g 180 d95_91 (by decide) ?_
      refine wq_l 181 d95_180 rfl rfl rfl rfl ?_
      refine wq_gr (ci := 4) (j := 0) (q := 2) 184 d95_181 rfl rfl rfl rfl ?_
      refine wq_k 186 57 d95_184 (by decide) rfl ?_
      refine wq_v 189 [_] d95_186 rfl rfl m49 rfl rfl (Nat.le_of_ble_eq_true rfl) rfl (pk49 (k := 57) hK (by decide) h88 (fun σ186 h186 => ?_))
      refine wq_k 190 1 d95_189 (by decide) rfl ?_
      refine wq_ri d95_190 (rfl) ?_
      exact hQ _ (pc_e h186 (by first | (simp only [pg_stmt, pg_ite, pg_seq, pg_tok, pg_nil, pg_leaf, if_true, if_false, Bool.false_eq_true, ha, i57, i41, i16, i21, i23, i28, f84]; done) | rfl) (by simp only [pg_stmt, pg_ite, pg_seq, pg_tok, pg_nil, pg_leaf, List.append_assoc, List.nil_append, List.append_nil, List.cons_append, List.singleton_append, List.length_append, List.length_cons, List.length_nil, List.length_singleton, if_true, if_false, Bool.false_eq_true, ha, i57, i41, i16, i21, i23, i28, f84]; done))
  · -- case 57
    have hk := (kq 57 (by decide)).mp e7
    have hlc := pg_kl hk (by decide)
    have ha : pg_any T [57, 41, 16, 21, 23, 28, 29] c = true := pg_any3 hk (by decide)
    rw [ha] at hQ
    have i57 : pg_is T 57 c = true := pg_isy hk
    have i41 : pg_is T 41 c = false := pg_isn hk (by decide)
    have i16 : pg_is T 16 c = false := pg_isn hk (by decide)
    have i21 : pg_is T 21 c = false := pg_isn hk (by decide)
    have i23 : pg_is T 23 c = false := pg_isn hk (by decide)
    have i28 : pg_is T 28 c = false := pg_isn hk (by decide)
    refine wq_g 180 d95_72 (by decide) ?_
    refine wq_l 181 d95_180 rfl rfl rfl rfl ?_
    refine wq_gr (ci := 4) (j := 0) (q := 2) 184 d95_181 rfl rfl rfl rfl ?_
    refine wq_k 186 57 d95_184 (by decide) rfl ?_
    refine wq_v 189 [_] d95_186 rfl rfl m49 rfl rfl (Nat.le_of_ble_eq_true rfl) rfl (pk49 (k := 57) hK (by decide) hR (fun σ186 h186 => ?_))
    refine wq_k 190 1 d95_189 (by decide) rfl ?_
    refine wq_ri d95_190 (rfl) ?_
    exact hQ _ (pc_e h186 (by first | (simp only [pg_stmt, pg_ite, pg_seq, pg_tok, pg_nil, pg_leaf, if_true, if_false, Bool.false_eq_true, ha, i57, i41, i16, i21, i23, i28]; done) | rfl) (by simp only [pg_stmt, pg_ite, pg_seq, pg_tok, pg_nil, pg_leaf, List.append_assoc, List.nil_append, List.append_nil, List.cons_append, List.singleton_append, List.length_append, List.length_cons, List.length_nil, List.length_singleton, if_true, if_false, Bool.false_eq_true, ha, i57, i41, i16, i21, i23, i28]; done))
  · -- default
    have w7_16 := e7 (16, 101) (by decide)
    have w7_21 := e7 (21, 108) (by decide)
    have w7_23 := e7 (23, 115) (by decide)
    have w7_28 := e7 (28, 122) (by decide)
    have w7_29 := e7 (29, 150) (by decide)
    have w7_41 := e7 (41, 75) (by decide)
    have w7_57 := e7 (57, 72) (by decide)
    refine wq_k 179 0 d95_178 (by decide) rfl ?_
    refine wq_ri d95_179 (rfl) ?_
    have ha : pg_any T [57, 41, 16, 21, 23, 28, 29] c = false := pg_anyn (by
      intro k hk
      simp only [List.mem_cons, List.not_mem_nil, or_false] at hk
      rcases hk with z | z | z | z | z | z | z <;> subst z <;> intro w
      · exact w7_57 ((kq 57 (by decide)).mpr w)
      · exact w7_41 ((kq 41 (by decide)).mpr w)
      · exact w7_16 ((kq 16 (by decide)).mpr w)
      · exact w7_21 ((kq 21 (by decide)).mpr w)
      · exact w7_23 ((kq 23 (by decide)).mpr w)
      · exact w7_28 ((kq 28 (by decide)).mpr w)
      · exact w7_29 ((kq 29 (by decide)).mpr w))
    rw [ha] at hQ
    exact hQ _ (pc_e hR (by simp only [pg_ite, pg_nil, ha, if_false, Bool.false_eq_true]; done) (by simp only [pg_ite, pg_nil, ha, if_false, Bool.false_eq_true, List.append_nil]; done))
theorem pg_anyl {T : pg_T} {c : pg_C} {ks : List Nat} (h : pg_any T ks c = true) (hk : ks.contains 46 = false ∧ ks.contains 45 = false) : pg_live T c := by
  by_cases hd : pg_dead T c
  · rw [pg_gany T hk c hd] at h; cases h
  · exact pg_ld.mp hd
theorem pl94_lb {T : pg_T} {B : pg_P} {o : Nat} {c : pg_C} (hO : pg_O T B) (hDB : pg_D T B) (h0 : pg_lb T o c) (fa : pg_any T [57, 41, 16, 21, 23, 28, 29] c = true) : pg_lb T o (pg_stmt T B c).1 := fun z => Nat.le_trans (h0 (pg_anyl fa (by decide))) (pg_ostmt hO hDB c z)
theorem pl94 {d : Nat} {T : pg_T} {n : Nat} {σ0 : pm_S} {l : List pg_N} {Q : Option Value → pm_S → Prop} {x : Int32} {B : pg_P} {o : Nat} (hK : pc_K T n σ0) (hd : 620 ≤ d) (hO : pg_O T B) (hDB : pg_D T B) (hB : ∀ c', pg_lb T (o + 1) c' → pb_B T n σ0 (d + 5) B c') : ∀ (k : Nat) (σ : pm_S) (c : pg_C) (s : List pg_N), k ≤ 8192 → pg_lb T o c → pc_R T n σ0 σ c l s → (∀ σ' (y w : Int32), pc_R T n σ0 σ' (pg_whl (pg_any T [57, 41, 16, 21, 23, 28, 29]) (pg_stmt T B) k c).1 l (s ++ (pg_whl (pg_any T [57, 41, 16, 21, 23, 28, 29]) (pg_stmt T B) k c).2) → pm_WP pm_Y0 (pm_call pm_Y0 (d + 7)) 4 prog_6_method_13_code none Q 43 [.ref 4, .int x, .int w, .int y] [] σ') → pm_WP pm_Y0 (pm_call pm_Y0 (d + 7)) 4 prog_6_method_13_code none Q 24 [.ref 4, .int x, .int 1, .int (nI k)] [] σ := by
  intro k
  induction k with
  | zero =>
    intro σ c s hk h0 hR hX
    refine wq_l 25 d94_24 rfl rfl rfl rfl ?_
    refine wq_b 43 28 d94_25 rfl (by decide) rfl (fun c25 => absurd c25 (by decide)) (fun c25 => ?_)
    refine wq_l 29 d94_28 rfl rfl rfl rfl ?_
    refine wq_b 43 32 d94_29 rfl (by decide) rfl (fun c29 => ?_) (fun c29 => absurd (by decide) c29)
    exact hX _ _ _ (pc_e hR rfl (by simp only [pg_whl, pg_nil, List.append_nil]; done))
  | succ k ih =>
    intro σ c s hk h0 hR hX
    have ek := nI_toInt (n := k + 1) (by omega)
    refine wq_l 25 d94_24 rfl rfl rfl rfl ?_
    refine wq_b 43 28 d94_25 rfl (by decide) rfl (fun c25 => absurd c25 (by decide)) (fun c25 => ?_)
    refine wq_l 29 d94_28 rfl rfl rfl rfl ?_
    refine wq_b 43 32 d94_29 rfl (by decide) rfl (fun c29 => absurd c29 ((by simp only [i_lt, i_le, i_eq, ne_eq, Int32.reduceToInt, b2_0, b2_1, decide_eq_true_eq, decide_eq_false_iff_not, Bool.not_eq_true, Bool.not_eq_false] at * <;> omega))) (fun c29 => ?_)
    refine wq_l 33 d94_32 rfl rfl rfl rfl ?_
    refine wq_v 36 [] d94_33 rfl rfl m95 rfl rfl (Nat.le_of_ble_eq_true rfl) rfl (pp95 hK hd hO hDB (fun hl c' hc' => hB c' (fun z => by have h1 := hc' z; have h2 := h0 hl; omega)) hR (fun σ33 hS => ?_))
    refine wq_s 37 d94_36 rfl rfl (Nat.le_of_ble_eq_true rfl) rfl rfl ?_
    refine wq_i 40 d94_37 rfl rfl rfl ?_
    refine wq_g 24 d94_40 (by decide) ?_
    rw [show nI (k + 1) + Int32.ofInt (-1) = nI k from nI_m1 k]
    cases fa : ((pg_any T [57, 41, 16, 21, 23, 28, 29]) c) with
    | true =>
      rw [show b2 true = 1 from rfl]
      exact ih _ _ _ (by omega) (pl94_lb hO hDB h0 fa) (pc_e hS (by simp only [pg_ite, if_true, fa]; done) (by simp only [pg_ite, if_true, fa]; done) : pc_R T n σ0 _ ((pg_stmt T B) c).1 l (s ++ ((pg_stmt T B) c).2)) (fun σ' y w h' => hX σ' y w (pc_e h' (by simp only [pg_whl, pg_ite, pg_seq, pg_nil, if_true, if_false, Bool.false_eq_true, fa]; done) (by simp only [pg_whl, pg_ite, pg_seq, pg_nil, if_true, if_false, Bool.false_eq_true, fa, List.append_assoc, List.nil_append, List.append_nil, List.cons_append, List.singleton_append, List.length_append, List.length_cons, List.length_nil, List.length_singleton]; done)))
    | false =>
      rw [show b2 false = 0 from rfl]
      refine wq_l 25 d94_24 rfl rfl rfl rfl ?_
      refine wq_b 43 28 d94_25 rfl (by decide) rfl (fun _ => ?_) (fun z => absurd rfl z)
      exact hX _ _ _ (pc_e hS (by simp only [pg_whl, pg_ite, pg_seq, pg_nil, if_true, if_false, Bool.false_eq_true, fa]; done) (by simp only [pg_whl, pg_ite, pg_seq, pg_nil, if_true, if_false, Bool.false_eq_true, fa, List.append_assoc, List.nil_append, List.append_nil, List.cons_append, List.singleton_append, List.length_append, List.length_cons, List.length_nil, List.length_singleton]; done))
theorem pq94_43 {d : Nat} {T : pg_T} {n : Nat} {σ0 σ : pm_S} {c : pg_C} {L r : List pg_N} {k0 p0 z0 : Nat} {v0 x : Int32} {Q : Option Value → pm_S → Prop} {w y : Int32} (hK : pc_K T n σ0) (hx : L.length < 16386 → x = nI L.length) (hR : pc_R T n σ0 σ c (L ++ [(k0, p0, v0, z0)]) r) (hQ : ∀ σ', pc_R T n σ0 σ' (pg_nil c).1 L ((k0, p0, v0, (r ++ (pg_nil c).2).length + 1) :: (r ++ (pg_nil c).2)) → Q none σ') : pm_WP pm_Y0 (pm_call pm_Y0 (d + 7)) 4 prog_6_method_13_code none Q 43 [.ref 4, .int x, .int w, .int y] [] σ := by
  refine wq_l 44 d94_43 rfl rfl rfl rfl ?_
  refine wq_gr (ci := 4) (j := 1) (q := 3) 47 d94_44 rfl rfl rfl rfl ?_
  refine wq_l 48 d94_47 rfl rfl rfl rfl ?_
  refine wq_v 51 [_] d94_48 rfl rfl m59 rfl rfl (Nat.le_of_ble_eq_true rfl) rfl (pk59 hx hR (fun σ48 h48 => ?_))
  refine wq_rv d94_51 ?_
  exact hQ _ (pc_e h48 (by simp only [pg_nil, if_true, if_false, Bool.false_eq_true]; done) (by simp only [pg_nil, List.append_assoc, List.nil_append, List.append_nil, List.cons_append, List.singleton_append, List.length_append, List.length_cons, List.length_nil, List.length_singleton, if_true, if_false, Bool.false_eq_true]; done))
theorem pb_0 {T : pg_T} {n : Nat} {σ0 : pm_S} {d : Nat} {c : pg_C} (hK : pc_K T n σ0) (hc : ∀ σ l, pc_B T n σ0 σ c l → ¬ pg_live T c) : pb_B T n σ0 (d + 8) pg_nil c := by
  intro σ l s Q hR hQ
  have hdd : pg_dead T c := Classical.not_not.mp (fun z => hc _ _ hR (pg_ld.mp z))
  have hkd := pg_kd hdd
  have ekk := nI_toInt (n := pg_k T c) (by omega)
  refine wq_m m94 (Nat.le_of_ble_eq_true rfl) (by decide) rfl ?_
  refine wq_l 1 d94_0 rfl rfl rfl rfl ?_
  refine wq_gr (ci := 4) (j := 1) (q := 3) 4 d94_1 rfl rfl rfl rfl ?_
  refine wq_k 6 11 d94_4 (by decide) rfl ?_
  refine wq_l 7 d94_6 rfl rfl rfl rfl ?_
  refine wq_gr (ci := 4) (j := 0) (q := 2) 10 d94_7 rfl rfl rfl rfl ?_
  refine wq_v 13 [] d94_10 rfl rfl m52 rfl rfl (Nat.le_of_ble_eq_true rfl) rfl (pk52 hK hR ?_)
  refine wq_k 14 0 d94_13 (by decide) rfl ?_
  refine wq_v 17 [_, _, _] d94_14 rfl rfl m57 rfl rfl (Nat.le_of_ble_eq_true rfl) rfl (pk57o (k := 11) hR (fun σ14 x14 hx14 h14 => ?_))
  refine wq_s 18 d94_17 rfl rfl (Nat.le_of_ble_eq_true rfl) rfl rfl ?_
  refine wq_k 19 1 d94_18 (by decide) rfl ?_
  refine wq_s 20 d94_19 rfl rfl (Nat.le_of_ble_eq_true rfl) rfl rfl ?_
  refine wq_k 23 8192 d94_20 (by decide) rfl ?_
  refine wq_s 24 d94_23 rfl rfl (Nat.le_of_ble_eq_true rfl) rfl rfl ?_
  refine wq_l 25 d94_24 rfl rfl rfl rfl ?_
  refine wq_b 43 28 d94_25 rfl (by decide) rfl (fun z => absurd z (by decide)) (fun _ => ?_)
  refine wq_l 29 d94_28 rfl rfl rfl rfl ?_
  refine wq_b 43 32 d94_29 rfl (by decide) rfl (fun z => absurd z (by decide)) (fun _ => ?_)
  refine wq_l 33 d94_32 rfl rfl rfl rfl ?_
  refine wq_v 36 [] d94_33 rfl rfl m95 rfl rfl (Nat.le_of_ble_eq_true rfl) rfl ?_
  refine wq_m m95 (Nat.le_of_ble_eq_true rfl) (by decide) rfl ?_
  refine wq_l 1 d95_0 rfl rfl rfl rfl ?_
  refine wq_gr (ci := 4) (j := 0) (q := 2) 4 d95_1 rfl rfl rfl rfl ?_
  refine wq_v 7 [] d95_4 rfl rfl m45 rfl rfl (Nat.le_of_ble_eq_true rfl) rfl (pk45 h14 ?_)
  refine wq_lsw [(16, 101), (21, 108), (23, 115), (28, 122), (29, 150), (41, 75), (57, 72)] 178 d95_7 (by decide) (List.forall_mem_cons.mpr ⟨fun e7 => ?_, List.forall_mem_cons.mpr ⟨fun e7 => ?_, List.forall_mem_cons.mpr ⟨fun e7 => ?_, List.forall_mem_cons.mpr ⟨fun e7 => ?_, List.forall_mem_cons.mpr ⟨fun e7 => ?_, List.forall_mem_cons.mpr ⟨fun e7 => ?_, List.forall_mem_cons.mpr ⟨fun e7 => ?_, fun _ h => absurd h List.not_mem_nil⟩⟩⟩⟩⟩⟩⟩) (fun e7 => ?_)
  · -- case 16
    exact absurd e7 (by simp only [i_lt, i_le, i_eq, ne_eq, Int32.reduceToInt, b2_0, b2_1, decide_eq_true_eq, decide_eq_false_iff_not, Bool.not_eq_true, Bool.not_eq_false, ekk]; omega)
  · -- case 21
    exact absurd e7 (by simp only [i_lt, i_le, i_eq, ne_eq, Int32.reduceToInt, b2_0, b2_1, decide_eq_true_eq, decide_eq_false_iff_not, Bool.not_eq_true, Bool.not_eq_false, ekk]; omega)
  · -- case 23
    exact absurd e7 (by simp only [i_lt, i_le, i_eq, ne_eq, Int32.reduceToInt, b2_0, b2_1, decide_eq_true_eq, decide_eq_false_iff_not, Bool.not_eq_true, Bool.not_eq_false, ekk]; omega)
  · -- case 28
    exact absurd e7 (by simp only [i_lt, i_le, i_eq, ne_eq, Int32.reduceToInt, b2_0, b2_1, decide_eq_true_eq, decide_eq_false_iff_not, Bool.not_eq_true, Bool.not_eq_false, ekk]; omega)
  · -- case 29
    exact absurd e7 (by simp only [i_lt, i_le, i_eq, ne_eq, Int32.reduceToInt, b2_0, b2_1, decide_eq_true_eq, decide_eq_false_iff_not, Bool.not_eq_true, Bool.not_eq_false, ekk]; omega)
  · -- case 41
    exact absurd e7 (by simp only [i_lt, i_le, i_eq, ne_eq, Int32.reduceToInt, b2_0, b2_1, decide_eq_true_eq, decide_eq_false_iff_not, Bool.not_eq_true, Bool.not_eq_false, ekk]; omega)
  · -- case 57
    exact absurd e7 (by simp only [i_lt, i_le, i_eq, ne_eq, Int32.reduceToInt, b2_0, b2_1, decide_eq_true_eq, decide_eq_false_iff_not, Bool.not_eq_true, Bool.not_eq_false, ekk]; omega)
  · -- default
    have w7_16 := e7 (16, 101) (by decide)
    have w7_21 := e7 (21, 108) (by decide)
    have w7_23 := e7 (23, 115) (by decide)
    have w7_28 := e7 (28, 122) (by decide)
    have w7_29 := e7 (29, 150) (by decide)
    have w7_41 := e7 (41, 75) (by decide)
    have w7_57 := e7 (57, 72) (by decide)
    refine wq_k 179 0 d95_178 (by decide) rfl ?_
    refine wq_ri d95_179 (rfl) ?_
    refine wq_s 37 d94_36 rfl rfl (Nat.le_of_ble_eq_true rfl) rfl rfl ?_
    refine wq_i 40 d94_37 rfl rfl rfl ?_
    refine wq_g 24 d94_40 (by decide) ?_
    refine wq_l 25 d94_24 rfl rfl rfl rfl ?_
    refine wq_b 43 28 d94_25 rfl (by decide) rfl (fun _ => ?_) (fun z => absurd rfl z)
    exact pq94_43 hK hx14 h14 (fun σ' h' => hQ σ' (pc_e h' (by simp only [pg_body, pg_node, pg_nil]; done) (by simp only [pg_body, pg_node, pg_nil, List.append_assoc, List.nil_append, List.append_nil, List.cons_append, List.singleton_append, List.length_append, List.length_cons, List.length_nil, List.length_singleton]; done)))
theorem pg_B_s (T : pg_T) (f : Nat) : pg_B T (f + 1) = pg_whl (pg_any T [57, 41, 16, 21, 23, 28, 29]) (pg_stmt T (pg_B T f)) pg_M := rfl
theorem pb_s {T : pg_T} {n : Nat} {σ0 : pm_S} {d o : Nat} {B : pg_P} {c : pg_C} (hK : pc_K T n σ0) (hd : 620 ≤ d) (hO : pg_O T B) (hDB : pg_D T B) (h0 : pg_lb T o c) (hB : ∀ c', pg_lb T (o + 1) c' → pb_B T n σ0 (d + 5) B c') : pb_B T n σ0 (d + 8) (pg_whl (pg_any T [57, 41, 16, 21, 23, 28, 29]) (pg_stmt T B) pg_M) c := by
  intro σ l s Q hR hQ
  refine wq_m m94 (Nat.le_of_ble_eq_true rfl) (by decide) rfl ?_
  refine wq_l 1 d94_0 rfl rfl rfl rfl ?_
  refine wq_gr (ci := 4) (j := 1) (q := 3) 4 d94_1 rfl rfl rfl rfl ?_
  refine wq_k 6 11 d94_4 (by decide) rfl ?_
  refine wq_l 7 d94_6 rfl rfl rfl rfl ?_
  refine wq_gr (ci := 4) (j := 0) (q := 2) 10 d94_7 rfl rfl rfl rfl ?_
  refine wq_v 13 [] d94_10 rfl rfl m52 rfl rfl (Nat.le_of_ble_eq_true rfl) rfl (pk52 hK hR ?_)
  refine wq_k 14 0 d94_13 (by decide) rfl ?_
  refine wq_v 17 [_, _, _] d94_14 rfl rfl m57 rfl rfl (Nat.le_of_ble_eq_true rfl) rfl (pk57o (k := 11) hR (fun σ14 x14 hx14 h14 => ?_))
  refine wq_s 18 d94_17 rfl rfl (Nat.le_of_ble_eq_true rfl) rfl rfl ?_
  refine wq_k 19 1 d94_18 (by decide) rfl ?_
  refine wq_s 20 d94_19 rfl rfl (Nat.le_of_ble_eq_true rfl) rfl rfl ?_
  refine wq_k 23 8192 d94_20 (by decide) rfl ?_
  refine wq_s 24 d94_23 rfl rfl (Nat.le_of_ble_eq_true rfl) rfl rfl ?_
  refine pl94 (x := x14) (o := o) hK hd hO hDB hB pg_M _ _ _ (Nat.le_refl _) h0 h14 (fun σl yl wl hl => ?_)
  generalize pg_whl (pg_any T [57, 41, 16, 21, 23, 28, 29]) (pg_stmt T B) pg_M = W at *
  exact pq94_43 hK hx14 hl (fun σ' h' => hQ σ' (pc_e h' (by simp only [pg_body, pg_node, pg_nil]; done) (by simp only [pg_body, pg_node, pg_nil, List.append_assoc, List.nil_append, List.append_nil, List.cons_append, List.singleton_append, List.length_append, List.length_cons, List.length_nil, List.length_singleton]; done)))
theorem pb_all {T : pg_T} {n : Nat} {σ0 : pm_S} (hK : pc_K T n σ0) : ∀ f D c, 3 * f + 630 ≤ D → (pg_live T c → 61 - c.2.2 ≤ f) → pb_B T n σ0 D (pg_B T f) c
  | 0, D, c, hD, hH => by
    obtain ⟨d, rfl⟩ : ∃ d, D = d + 8 := ⟨D - 8, by omega⟩
    exact pb_0 hK (fun σ l hB hl => by have h1 := hH hl; have h2 := (hB.2.2.2.2.2.1 hl).2; omega)
  | f + 1, D, c, hD, hH => by
    obtain ⟨d, rfl⟩ : ∃ d, D = d + 8 := ⟨D - 8, by omega⟩
    rw [pg_B_s]
    by_cases hl : pg_live T c
    · exact pb_s (o := c.2.2) hK (by omega) (pg_oB T f) (pg_dB T f) (fun _ => Nat.le_refl _) (fun c' hc' => pb_all hK f _ c' (by omega) (fun z => by have h1 := hc' z; have h2 := hH hl; omega))
    · exact pb_s (o := 1000) hK (by omega) (pg_oB T f) (pg_dB T f) (fun z => absurd z hl) (fun c' hc' σ1 l1 s1 Q1 hR1 hQ1 => pb_all hK f _ c' (by omega) (fun z => by have h1 := hc' z; have h2 := (pc_op hR1 z).2; omega) σ1 l1 s1 Q1 hR1 hQ1)
