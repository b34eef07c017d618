theorem d297_0 : decode prog_14_method_107_code 0 = .ok (.aload_n 0, 1) := by decide +kernel
theorem d297_1 : decode prog_14_method_107_code 1 = .ok (.getfield 38, 3) := by decide +kernel
theorem d297_4 : decode prog_14_method_107_code 4 = .ok (.iload_n 1, 1) := by decide +kernel
theorem d297_5 : decode prog_14_method_107_code 5 = .ok (.iaload, 1) := by decide +kernel
theorem d297_6 : decode prog_14_method_107_code 6 = .ok (.istore_n 2, 1) := by decide +kernel
theorem d297_7 : decode prog_14_method_107_code 7 = .ok (.iload_n 2, 1) := by decide +kernel
theorem d297_8 : decode prog_14_method_107_code 8 = .ok (.ifCond .lt 36, 3) := by decide +kernel
theorem d297_11 : decode prog_14_method_107_code 11 = .ok (.aload_n 0, 1) := by decide +kernel
theorem d297_12 : decode prog_14_method_107_code 12 = .ok (.getfield 29, 3) := by decide +kernel
theorem d297_15 : decode prog_14_method_107_code 15 = .ok (.iload_n 2, 1) := by decide +kernel
theorem d297_16 : decode prog_14_method_107_code 16 = .ok (.iaload, 1) := by decide +kernel
theorem d297_17 : decode prog_14_method_107_code 17 = .ok (.bipush 11, 2) := by decide +kernel
theorem d297_19 : decode prog_14_method_107_code 19 = .ok (.if_icmp .eq 15, 3) := by decide +kernel
theorem d297_22 : decode prog_14_method_107_code 22 = .ok (.aload_n 0, 1) := by decide +kernel
theorem d297_23 : decode prog_14_method_107_code 23 = .ok (.getfield 50, 3) := by decide +kernel
theorem d297_26 : decode prog_14_method_107_code 26 = .ok (.iload_n 2, 1) := by decide +kernel
theorem d297_27 : decode prog_14_method_107_code 27 = .ok (.iaload, 1) := by decide +kernel
theorem d297_28 : decode prog_14_method_107_code 28 = .ok (.ifCond .eq 6, 3) := by decide +kernel
theorem d297_31 : decode prog_14_method_107_code 31 = .ok (.bipush 34, 2) := by decide +kernel
theorem d297_33 : decode prog_14_method_107_code 33 = .ok (.ireturn, 1) := by decide +kernel
theorem d297_34 : decode prog_14_method_107_code 34 = .ok (.aload_n 0, 1) := by decide +kernel
theorem d297_35 : decode prog_14_method_107_code 35 = .ok (.getfield 44, 3) := by decide +kernel
theorem d297_38 : decode prog_14_method_107_code 38 = .ok (.iload_n 2, 1) := by decide +kernel
theorem d297_39 : decode prog_14_method_107_code 39 = .ok (.iaload, 1) := by decide +kernel
theorem d297_40 : decode prog_14_method_107_code 40 = .ok (.istore_n 2, 1) := by decide +kernel
theorem d297_41 : decode prog_14_method_107_code 41 = .ok (.goto (-34), 3) := by decide +kernel
theorem d297_44 : decode prog_14_method_107_code 44 = .ok (.iconst 0, 1) := by decide +kernel
theorem d297_45 : decode prog_14_method_107_code 45 = .ok (.ireturn, 1) := by decide +kernel
theorem m297 : pm_m 297 = some (⟨"TypeRulesModel", "ifRule", "(I)I"⟩, prog_14_method_107_code, 3, (some FieldType.int), 10, 1, 11) := rfl
theorem d299_0 : decode prog_14_method_108_code 0 = .ok (.aload_n 0, 1) := by decide +kernel
theorem d299_1 : decode prog_14_method_108_code 1 = .ok (.getfield 29, 3) := by decide +kernel
theorem d299_4 : decode prog_14_method_108_code 4 = .ok (.aload_n 0, 1) := by decide +kernel
theorem d299_5 : decode prog_14_method_108_code 5 = .ok (.getfield 38, 3) := by decide +kernel
theorem d299_8 : decode prog_14_method_108_code 8 = .ok (.iload_n 1, 1) := by decide +kernel
theorem d299_9 : decode prog_14_method_108_code 9 = .ok (.iaload, 1) := by decide +kernel
theorem d299_10 : decode prog_14_method_108_code 10 = .ok (.iaload, 1) := by decide +kernel
theorem d299_11 : decode prog_14_method_108_code 11 = .ok (.bipush 31, 2) := by decide +kernel
theorem d299_13 : decode prog_14_method_108_code 13 = .ok (.if_icmp .eq 44, 3) := by decide +kernel
theorem d299_16 : decode prog_14_method_108_code 16 = .ok (.aload_n 0, 1) := by decide +kernel
theorem d299_17 : decode prog_14_method_108_code 17 = .ok (.getfield 29, 3) := by decide +kernel
theorem d299_20 : decode prog_14_method_108_code 20 = .ok (.aload_n 0, 1) := by decide +kernel
theorem d299_21 : decode prog_14_method_108_code 21 = .ok (.getfield 41, 3) := by decide +kernel
theorem d299_24 : decode prog_14_method_108_code 24 = .ok (.iload_n 1, 1) := by decide +kernel
theorem d299_25 : decode prog_14_method_108_code 25 = .ok (.iaload, 1) := by decide +kernel
theorem d299_26 : decode prog_14_method_108_code 26 = .ok (.iaload, 1) := by decide +kernel
theorem d299_27 : decode prog_14_method_108_code 27 = .ok (.bipush 31, 2) := by decide +kernel
theorem d299_29 : decode prog_14_method_108_code 29 = .ok (.if_icmp .eq 28, 3) := by decide +kernel
theorem d299_32 : decode prog_14_method_108_code 32 = .ok (.aload_n 0, 1) := by decide +kernel
theorem d299_33 : decode prog_14_method_108_code 33 = .ok (.getfield 35, 3) := by decide +kernel
theorem d299_36 : decode prog_14_method_108_code 36 = .ok (.aload_n 0, 1) := by decide +kernel
theorem d299_37 : decode prog_14_method_108_code 37 = .ok (.getfield 38, 3) := by decide +kernel
theorem d299_40 : decode prog_14_method_108_code 40 = .ok (.iload_n 1, 1) := by decide +kernel
theorem d299_41 : decode prog_14_method_108_code 41 = .ok (.iaload, 1) := by decide +kernel
theorem d299_42 : decode prog_14_method_108_code 42 = .ok (.iaload, 1) := by decide +kernel
theorem d299_43 : decode prog_14_method_108_code 43 = .ok (.aload_n 0, 1) := by decide +kernel
theorem d299_44 : decode prog_14_method_108_code 44 = .ok (.getfield 35, 3) := by decide +kernel
theorem d299_47 : decode prog_14_method_108_code 47 = .ok (.aload_n 0, 1) := by decide +kernel
theorem d299_48 : decode prog_14_method_108_code 48 = .ok (.getfield 41, 3) := by decide +kernel
theorem d299_51 : decode prog_14_method_108_code 51 = .ok (.iload_n 1, 1) := by decide +kernel
theorem d299_52 : decode prog_14_method_108_code 52 = .ok (.iaload, 1) := by decide +kernel
theorem d299_53 : decode prog_14_method_108_code 53 = .ok (.iaload, 1) := by decide +kernel
theorem d299_54 : decode prog_14_method_108_code 54 = .ok (.if_icmp .le 7, 3) := by decide +kernel
theorem d299_57 : decode prog_14_method_108_code 57 = .ok (.iconst 1, 1) := by decide +kernel
theorem d299_58 : decode prog_14_method_108_code 58 = .ok (.goto 4, 3) := by decide +kernel
theorem d299_61 : decode prog_14_method_108_code 61 = .ok (.iconst 0, 1) := by decide +kernel
theorem d299_62 : decode prog_14_method_108_code 62 = .ok (.istore_n 2, 1) := by decide +kernel
theorem d299_63 : decode prog_14_method_108_code 63 = .ok (.iload_n 2, 1) := by decide +kernel
theorem d299_64 : decode prog_14_method_108_code 64 = .ok (.ifCond .eq 8, 3) := by decide +kernel
theorem d299_67 : decode prog_14_method_108_code 67 = .ok (.bipush 35, 2) := by decide +kernel
theorem d299_69 : decode prog_14_method_108_code 69 = .ok (.goto 4, 3) := by decide +kernel
theorem d299_72 : decode prog_14_method_108_code 72 = .ok (.iconst 0, 1) := by decide +kernel
theorem d299_73 : decode prog_14_method_108_code 73 = .ok (.ireturn, 1) := by decide +kernel
theorem m299 : pm_m 299 = some (⟨"TypeRulesModel", "rangeRule", "(I)I"⟩, prog_14_method_108_code, 3, (some FieldType.int), 10, 1, 11) := rfl
theorem d303_0 : decode prog_14_method_111_code 0 = .ok (.iconst 0, 1) := by decide +kernel
theorem d303_1 : decode prog_14_method_111_code 1 = .ok (.istore_n 2, 1) := by decide +kernel
theorem d303_2 : decode prog_14_method_111_code 2 = .ok (.aload_n 0, 1) := by decide +kernel
theorem d303_3 : decode prog_14_method_111_code 3 = .ok (.getfield 38, 3) := by decide +kernel
theorem d303_6 : decode prog_14_method_111_code 6 = .ok (.iload_n 1, 1) := by decide +kernel
theorem d303_7 : decode prog_14_method_111_code 7 = .ok (.iaload, 1) := by decide +kernel
theorem d303_8 : decode prog_14_method_111_code 8 = .ok (.istore_n 3, 1) := by decide +kernel
theorem d303_9 : decode prog_14_method_111_code 9 = .ok (.iload_n 3, 1) := by decide +kernel
theorem d303_10 : decode prog_14_method_111_code 10 = .ok (.ifCond .lt 32, 3) := by decide +kernel
theorem d303_13 : decode prog_14_method_111_code 13 = .ok (.iload_n 2, 1) := by decide +kernel
theorem d303_14 : decode prog_14_method_111_code 14 = .ok (.aload_n 0, 1) := by decide +kernel
theorem d303_15 : decode prog_14_method_111_code 15 = .ok (.getfield 29, 3) := by decide +kernel
theorem d303_18 : decode prog_14_method_111_code 18 = .ok (.iload_n 3, 1) := by decide +kernel
theorem d303_19 : decode prog_14_method_111_code 19 = .ok (.iaload, 1) := by decide +kernel
theorem d303_20 : decode prog_14_method_111_code 20 = .ok (.bipush 29, 2) := by decide +kernel
theorem d303_22 : decode prog_14_method_111_code 22 = .ok (.if_icmp .ne 7, 3) := by decide +kernel
theorem d303_25 : decode prog_14_method_111_code 25 = .ok (.iconst 0, 1) := by decide +kernel
theorem d303_26 : decode prog_14_method_111_code 26 = .ok (.goto 4, 3) := by decide +kernel
theorem d303_29 : decode prog_14_method_111_code 29 = .ok (.iconst 1, 1) := by decide +kernel
theorem d303_30 : decode prog_14_method_111_code 30 = .ok (.iadd, 1) := by decide +kernel
theorem d303_31 : decode prog_14_method_111_code 31 = .ok (.istore_n 2, 1) := by decide +kernel
theorem d303_32 : decode prog_14_method_111_code 32 = .ok (.aload_n 0, 1) := by decide +kernel
theorem d303_33 : decode prog_14_method_111_code 33 = .ok (.getfield 44, 3) := by decide +kernel
theorem d303_36 : decode prog_14_method_111_code 36 = .ok (.iload_n 3, 1) := by decide +kernel
theorem d303_37 : decode prog_14_method_111_code 37 = .ok (.iaload, 1) := by decide +kernel
theorem d303_38 : decode prog_14_method_111_code 38 = .ok (.istore_n 3, 1) := by decide +kernel
theorem d303_39 : decode prog_14_method_111_code 39 = .ok (.goto (-30), 3) := by decide +kernel
theorem d303_42 : decode prog_14_method_111_code 42 = .ok (.iload_n 2, 1) := by decide +kernel
theorem d303_43 : decode prog_14_method_111_code 43 = .ok (.ireturn, 1) := by decide +kernel
theorem m303 : pm_m 303 = some (⟨"TypeRulesModel", "cellsIn", "(I)I"⟩, prog_14_method_111_code, 4, (some FieldType.int), 10, 1, 11) := rfl
theorem d302_0 : decode prog_14_method_112_code 0 = .ok (.iconst 0, 1) := by decide +kernel
theorem d302_1 : decode prog_14_method_112_code 1 = .ok (.istore_n 2, 1) := by decide +kernel
theorem d302_2 : decode prog_14_method_112_code 2 = .ok (.iconst 1, 1) := by decide +kernel
theorem d302_3 : decode prog_14_method_112_code 3 = .ok (.istore_n 3, 1) := by decide +kernel
theorem d302_4 : decode prog_14_method_112_code 4 = .ok (.aload_n 0, 1) := by decide +kernel
theorem d302_5 : decode prog_14_method_112_code 5 = .ok (.getfield 38, 3) := by decide +kernel
theorem d302_8 : decode prog_14_method_112_code 8 = .ok (.iload_n 1, 1) := by decide +kernel
theorem d302_9 : decode prog_14_method_112_code 9 = .ok (.iaload, 1) := by decide +kernel
theorem d302_10 : decode prog_14_method_112_code 10 = .ok (.istore 4, 2) := by decide +kernel
theorem d302_12 : decode prog_14_method_112_code 12 = .ok (.iload 4, 2) := by decide +kernel
theorem d302_14 : decode prog_14_method_112_code 14 = .ok (.ifCond .lt 58, 3) := by decide +kernel
theorem d302_17 : decode prog_14_method_112_code 17 = .ok (.iinc 2 1, 3) := by decide +kernel
theorem d302_20 : decode prog_14_method_112_code 20 = .ok (.iload_n 3, 1) := by decide +kernel
theorem d302_21 : decode prog_14_method_112_code 21 = .ok (.ifCond .eq 37, 3) := by decide +kernel
theorem d302_24 : decode prog_14_method_112_code 24 = .ok (.aload_n 0, 1) := by decide +kernel
theorem d302_25 : decode prog_14_method_112_code 25 = .ok (.iload 4, 2) := by decide +kernel
theorem d302_27 : decode prog_14_method_112_code 27 = .ok (.invokevirtual 629, 3) := by decide +kernel
theorem d302_30 : decode prog_14_method_112_code 30 = .ok (.bipush 12, 2) := by decide +kernel
theorem d302_32 : decode prog_14_method_112_code 32 = .ok (.if_icmp .gt 26, 3) := by decide +kernel
theorem d302_35 : decode prog_14_method_112_code 35 = .ok (.aload_n 0, 1) := by decide +kernel
theorem d302_36 : decode prog_14_method_112_code 36 = .ok (.iload 4, 2) := by decide +kernel
theorem d302_38 : decode prog_14_method_112_code 38 = .ok (.invokevirtual 629, 3) := by decide +kernel
theorem d302_41 : decode prog_14_method_112_code 41 = .ok (.aload_n 0, 1) := by decide +kernel
theorem d302_42 : decode prog_14_method_112_code 42 = .ok (.aload_n 0, 1) := by decide +kernel
theorem d302_43 : decode prog_14_method_112_code 43 = .ok (.getfield 38, 3) := by decide +kernel
theorem d302_46 : decode prog_14_method_112_code 46 = .ok (.iload_n 1, 1) := by decide +kernel
theorem d302_47 : decode prog_14_method_112_code 47 = .ok (.iaload, 1) := by decide +kernel
theorem d302_48 : decode prog_14_method_112_code 48 = .ok (.invokevirtual 629, 3) := by decide +kernel
theorem d302_51 : decode prog_14_method_112_code 51 = .ok (.if_icmp .ne 7, 3) := by decide +kernel
theorem d302_54 : decode prog_14_method_112_code 54 = .ok (.iconst 1, 1) := by decide +kernel
theorem d302_55 : decode prog_14_method_112_code 55 = .ok (.goto 4, 3) := by decide +kernel
theorem d302_58 : decode prog_14_method_112_code 58 = .ok (.iconst 0, 1) := by decide +kernel
theorem d302_59 : decode prog_14_method_112_code 59 = .ok (.istore_n 3, 1) := by decide +kernel
theorem d302_60 : decode prog_14_method_112_code 60 = .ok (.aload_n 0, 1) := by decide +kernel
theorem d302_61 : decode prog_14_method_112_code 61 = .ok (.getfield 44, 3) := by decide +kernel
theorem d302_64 : decode prog_14_method_112_code 64 = .ok (.iload 4, 2) := by decide +kernel
theorem d302_66 : decode prog_14_method_112_code 66 = .ok (.iaload, 1) := by decide +kernel
theorem d302_67 : decode prog_14_method_112_code 67 = .ok (.istore 4, 2) := by decide +kernel
theorem d302_69 : decode prog_14_method_112_code 69 = .ok (.goto (-57), 3) := by decide +kernel
theorem d302_72 : decode prog_14_method_112_code 72 = .ok (.iload_n 3, 1) := by decide +kernel
theorem d302_73 : decode prog_14_method_112_code 73 = .ok (.ifCond .eq 13, 3) := by decide +kernel
theorem d302_76 : decode prog_14_method_112_code 76 = .ok (.iload_n 2, 1) := by decide +kernel
theorem d302_77 : decode prog_14_method_112_code 77 = .ok (.bipush 12, 2) := by decide +kernel
theorem d302_79 : decode prog_14_method_112_code 79 = .ok (.if_icmp .gt 7, 3) := by decide +kernel
theorem d302_82 : decode prog_14_method_112_code 82 = .ok (.iconst 0, 1) := by decide +kernel
theorem d302_83 : decode prog_14_method_112_code 83 = .ok (.goto 5, 3) := by decide +kernel
theorem d302_86 : decode prog_14_method_112_code 86 = .ok (.bipush 38, 2) := by decide +kernel
theorem d302_88 : decode prog_14_method_112_code 88 = .ok (.ireturn, 1) := by decide +kernel
theorem m302 : pm_m 302 = some (⟨"TypeRulesModel", "rungRule", "(I)I"⟩, prog_14_method_112_code, 5, (some FieldType.int), 10, 1, 11) := rfl
theorem re291 {d : Nat} {l : List pg_N} {a : Nat → Nat} {R : Int32 → Int32 → Prop} {σ0 σ : pm_S} {fl : Bool} {u : Nat} {A : rl_A} {Q : Option Value → pm_S → Prop} {NN i : Nat} (hG : lg_G l NN) (h : rr_I l a R σ0 σ fl u A) (hp : pv_B A.1) (hB : A.1 ≠ []) (hs : rl_setl A) (i0 : i < l.length) (hk : rp_nk (rl_k l i) = true) (hQ : rr_Q l a R σ0 fl u (rl_srt A (rl_v l i) 2, rl_me (rl_ce A i (nI (rl_var A (rl_v l i)).2.2.2.2.2)) i (rl_mean (rl_var A (rl_v l i)).2.2.1.toNatClampNeg)) Q) : pm_call pm_Y0 (d + 4) 291 [.ref 10, .int (nI (a i))] σ Q := by
  have hR := rt_R (rr_T h) i0 hk
  have bi := rt_b (rr_T h) i0
  have em := rt_m (rr_T h) i0
  have hB9 := h.2.2.2.2.1.1
  have sl := rl_srtl (A := A) (x := rl_v l i) (s := 2)
  have es := nI_toInt (n := rl_srt A (rl_v l i) 2) (by omega)
  by_cases e0 : rl_srt A (rl_v l i) 2 = 0
  · skip
    refine wq_m m291 (Nat.le_of_ble_eq_true rfl) (by decide) rfl ?_
    refine wq_l 1 d291_0 rfl rfl rfl rfl ?_
    refine wq_l 2 d291_1 rfl rfl rfl rfl ?_
    refine wq_gr (ci := 10) (j := 18) (q := 51) 5 d291_2 rfl rfl rfl rfl ?_
    refine wq_l 6 d291_5 rfl rfl rfl rfl ?_
    refine wq_al 7 d291_6 rfl rfl rfl (bi) ?_
    rw [em]
    refine wq_k 8 2 d291_7 (by decide) rfl ?_
    refine wq_v 11 [_, _] d291_8 rfl rfl m292 rfl rfl (Nat.le_of_ble_eq_true rfl) rfl (re292 h hp hB hs (s := 2) (by decide) hR ?_)
    refine wq_s 12 d291_11 rfl rfl (Nat.le_of_ble_eq_true rfl) rfl rfl ?_
    refine wq_l 13 d291_12 rfl rfl rfl rfl ?_
    refine wq_b 76 16 d291_13 rfl (by decide) rfl (fun c13 => absurd c13 (fun z => z (by rw [e0]; rfl))) (fun c13 => ?_)
    refine wq_l 17 d291_16 rfl rfl rfl rfl ?_
    refine wq_l 18 d291_17 rfl rfl rfl rfl ?_
    refine wq_gr (ci := 10) (j := 18) (q := 51) 21 d291_18 rfl rfl rfl rfl ?_
    refine wq_l 22 d291_21 rfl rfl rfl rfl ?_
    refine wq_al 23 d291_22 rfl rfl rfl (bi) ?_
    rw [em]
    refine wq_v 26 [_] d291_23 rfl rfl m283 rfl rfl (Nat.le_of_ble_eq_true rfl) rfl (re283 h hp hB hR (fun e2 => ?_) (fun i2 v2 e2 f2 g2 => ?_))
    · -- fork 23
      rw [rl_srn e2] at e0
      exact absurd e0 (by decide)
      -- none
    · -- fork 23
      have m2 := rl_find_m e2
      have s2 := ((h.2.2.2.2.2.1.2.2) i2 v2 f2).2.1 (hs v2 m2)
      have ei := nI_toInt (n := i2) (by omega)
      have ec := nI_clamp (n := i2) (by omega)
      have v1 : v2.2.1 = 2 := Classical.byContradiction (fun z => by rw [rl_sr1 e2 z] at e0; exact absurd e0 (by decide))
      obtain ⟨q, q1, q2, q3⟩ := ((pv_cur hp hB).2.2.2.2.1 v2 m2).2.2.2.1 v1
      have q9 := q1
      rw [List.length_tail] at q9
      have qc : (nI q).toNatClampNeg = q := nI_clamp (by omega)
      have tv : rv_t v2 = rv_q q := by unfold rv_t; rw [if_pos v1, q2, qc]
      rw [rl_vrs e2, q2, qc] at hQ
      have h39 := rr_ce h i0 (nI v2.2.2.2.2.2)
      have h76 := rr_me h39 i0 (rl_mean q)
      refine wq_s 27 d291_26 rfl rfl (Nat.le_of_ble_eq_true rfl) rfl rfl ?_
      refine wq_l 28 d291_27 rfl rfl rfl rfl ?_
      refine wq_gr (ci := 10) (j := 24) (q := 57) 31 d291_28 rfl rfl rfl rfl ?_
      refine wq_l 32 d291_31 rfl rfl rfl rfl ?_
      refine wq_l 33 d291_32 rfl rfl rfl rfl ?_
      refine wq_gr (ci := 10) (j := 47) (q := 74) 36 d291_33 rfl rfl rfl rfl ?_
      refine wq_l 37 d291_36 rfl rfl rfl rfl ?_
      refine wq_al 38 d291_37 rfl rfl rfl (vp_in_iff.mpr (by rw [ei]; omega)) ?_
      rw [ec, s2.2.2.2.2]
      refine wq_as 39 d291_38 rfl rfl rfl (bi) ?_
      refine wq_l 40 d291_39 rfl rfl rfl rfl ?_
      refine wq_gr (ci := 10) (j := 25) (q := 58) 43 d291_40 rfl rfl rfl rfl ?_
      refine wq_l 44 d291_43 rfl rfl rfl rfl ?_
      refine wq_l 45 d291_44 rfl rfl rfl rfl ?_
      refine wq_gr (ci := 10) (j := 44) (q := 71) 48 d291_45 rfl rfl rfl rfl ?_
      refine wq_l 49 d291_48 rfl rfl rfl rfl ?_
      refine wq_al 50 d291_49 rfl rfl rfl (vp_in_iff.mpr (by rw [ei]; omega)) ?_
      rw [pm_rne (by decide), ec, s2.2.1, tv]
      refine wq_k 53 10000 d291_50 (by decide) rfl ?_
      refine wq_b 69 56 d291_53 rfl (by decide) rfl (fun c53 => ?_) (fun c53 => ?_)
      · -- pc 69
        have q0 : ¬ q < 9 := fun w => by rw [show rv_q q = nI (10100 + q) from if_pos w, i_lt, nI_toInt (by omega)] at c53; have c53 : _ < (10000 : Int) := c53; omega
        have eM : rl_mean q = rv_q q := by unfold rl_mean rv_q; rw [if_neg q0, if_neg q0]
        -- own
        refine wq_l 70 d291_69 rfl rfl rfl rfl ?_
        refine wq_gr (ci := 10) (j := 44) (q := 71) 73 d291_70 rfl rfl rfl rfl ?_
        refine wq_l 74 d291_73 rfl rfl rfl rfl ?_
        refine wq_al 75 d291_74 rfl rfl rfl (vp_in_iff.mpr (by rw [ei]; omega)) ?_
        first | rw [← eM] | rw [pm_rne (by decide), ec, s2.2.1, tv, ← eM]
        refine wq_as 76 d291_75 rfl rfl rfl (bi) ?_
        refine wq_l 77 d291_76 rfl rfl rfl rfl ?_
        refine wq_ri d291_77 (rfl) ?_
        rw [e0]
        exact rr_q0 hQ h76 e0
      · -- pc 56
        have q0 : q < 9 := Classical.byContradiction (fun w => c53 (by rw [show rv_q q = nI (q - 9) from if_neg w, i_lt, nI_toInt (by omega)]; show _ < (10000 : Int); omega))
        have eM : rl_mean q = rv_q q - 10000 := by
          unfold rl_mean rv_q
          rw [if_pos q0, if_pos q0, show nI (10100 + q) - 10000 = nI (10100 + q - 10000) from nI_sbl (b := 10000) (by omega)]
          exact congrArg nI (show 100 + q = 10100 + q - 10000 by omega)
        refine wq_l 57 d291_56 rfl rfl rfl rfl ?_
        refine wq_gr (ci := 10) (j := 44) (q := 71) 60 d291_57 rfl rfl rfl rfl ?_
        refine wq_l 61 d291_60 rfl rfl rfl rfl ?_
        refine wq_al 62 d291_61 rfl rfl rfl (vp_in_iff.mpr (by rw [ei]; omega)) ?_
        rw [pm_rne (by decide), ec, s2.2.1, tv]
        refine wq_k 65 10000 d291_62 (by decide) rfl ?_
        refine wq_a 66 d291_65 rfl rfl ?_
        refine wq_g 75 d291_66 (by decide) ?_
        first | rw [← eM] | rw [pm_rne (by decide), ec, s2.2.1, tv, ← eM]
        refine wq_as 76 d291_75 rfl rfl rfl (bi) ?_
        refine wq_l 77 d291_76 rfl rfl rfl rfl ?_
        refine wq_ri d291_77 (rfl) ?_
        rw [e0]
        exact rr_q0 hQ h76 e0
  · skip
    refine wq_m m291 (Nat.le_of_ble_eq_true rfl) (by decide) rfl ?_
    refine wq_l 1 d291_0 rfl rfl rfl rfl ?_
    refine wq_l 2 d291_1 rfl rfl rfl rfl ?_
    refine wq_gr (ci := 10) (j := 18) (q := 51) 5 d291_2 rfl rfl rfl rfl ?_
    refine wq_l 6 d291_5 rfl rfl rfl rfl ?_
    refine wq_al 7 d291_6 rfl rfl rfl (bi) ?_
    rw [em]
    refine wq_k 8 2 d291_7 (by decide) rfl ?_
    refine wq_v 11 [_, _] d291_8 rfl rfl m292 rfl rfl (Nat.le_of_ble_eq_true rfl) rfl (re292 h hp hB hs (s := 2) (by decide) hR ?_)
    refine wq_s 12 d291_11 rfl rfl (Nat.le_of_ble_eq_true rfl) rfl rfl ?_
    refine wq_l 13 d291_12 rfl rfl rfl rfl ?_
    refine wq_b 76 16 d291_13 rfl (by decide) rfl (fun c13 => ?_) (fun c13 => absurd (fun z => e0 (hp_inj (b := 0) (by omega) (by decide) z)) c13)
    refine wq_l 77 d291_76 rfl rfl rfl rfl ?_
    refine wq_ri d291_77 (rfl) ?_
    exact rr_q1 hQ (rr_Fi h) rfl e0
theorem re297l {d : Nat} {l : List pg_N} {a : Nat → Nat} {R : Int32 → Int32 → Prop} {σ0 σ : pm_S} {fl : Bool} {u : Nat} {A : rl_A} {Q : Option Value → pm_S → Prop} {NN i : Nat} (hG : lg_G l NN) (h : rr_I l a R σ0 σ fl u A) (hi : i < l.length) : ∀ (n c : Nat), (rl_row l c (i + rl_z l i)).length = n → rl_cl l c (i + rl_z l i) → (∀ x ∈ rl_row l c (i + rl_z l i), x ∈ rl_c l i) → Q (some (.int (nI (if ((rl_row l c (i + rl_z l i)).all (fun c => rl_k l c == 11 || decide (A.2.1 c = 0))) = true then 0 else 34)))) σ → pm_WP pm_Y0 (pm_call pm_Y0 (d)) 10 prog_14_method_107_code (some FieldType.int) Q 7 [.ref 10, .int (nI (a i)), .int (if c < i + rl_z l i then nI (a c) else -1)] [] σ := by
  obtain ⟨z1, z2, z3⟩ := lg_cl hG hi
  intro n
  induction n with
  | zero =>
    intro c hn hc hm hQ
    have q : ¬ c < i + rl_z l i := fun q => by rw [rl_rowu z1 hc q] at hn; exact absurd hn (by simp)
    rw [if_neg q]
    rw [rl_row0 q] at hQ
    refine wq_l 8 d297_7 rfl rfl rfl rfl ?_
    refine wq_b 44 11 d297_8 rfl (by decide) rfl (fun c8 => ?_) (fun c8 => absurd (by decide) c8)
    refine wq_k 45 0 d297_44 (by decide) rfl ?_
    refine wq_ri d297_45 (rfl) ?_
    exact hQ
  | succ n ih =>
    intro c hn hc hm hQ
    have q : c < i + rl_z l i := by
      rcases Nat.lt_or_ge c (i + rl_z l i) with w | w
      · exact w
      · rw [rl_row0 (by omega)] at hn; exact absurd hn (by simp)
    have er := rl_rowu z1 hc q
    obtain ⟨c1, c2, c3⟩ := rl_clz hc q
    have mc : c ∈ rl_c l i := hm c (by rw [er]; exact List.mem_cons_self)
    have cl : c < l.length := by omega
    have bc := rt_b (rr_T h) cl
    have nc := rt_n (rr_T h) hG hi mc
    have nn := rt_nn (rr_T h) cl
    have kk := (lg_V hG cl).1
    rw [if_pos q]
    rw [er] at hQ
    have hn' : (rl_row l (c + rl_z l c) (i + rl_z l i)).length = n := by rw [er, List.length_cons] at hn; omega
    have hm' : ∀ x ∈ rl_row l (c + rl_z l c) (i + rl_z l i), x ∈ rl_c l i := fun x hx => hm x (by rw [er]; exact List.mem_cons_of_mem _ hx)
    rw [List.all_cons] at hQ
    refine wq_l 8 d297_7 rfl rfl rfl rfl ?_
    refine wq_b 44 11 d297_8 rfl (by decide) rfl (fun c8 => absurd c8 (nn)) (fun c8 => ?_)
    refine wq_l 12 d297_11 rfl rfl rfl rfl ?_
    refine wq_gr (ci := 10) (j := 16) (q := 49) 15 d297_12 rfl rfl rfl rfl ?_
    refine wq_l 16 d297_15 rfl rfl rfl rfl ?_
    refine wq_al 17 d297_16 rfl rfl rfl (bc) ?_
    rw [rt_k (rr_T h) cl]
    refine wq_k 19 11 d297_17 (by decide) rfl ?_
    refine wq_b 34 22 d297_19 rfl (by decide) rfl (fun c19 => ?_) (fun c19 => ?_)
    · -- pc 34
      refine wq_l 35 d297_34 rfl rfl rfl rfl ?_
      refine wq_gr (ci := 10) (j := 21) (q := 54) 38 d297_35 rfl rfl rfl rfl ?_
      refine wq_l 39 d297_38 rfl rfl rfl rfl ?_
      refine wq_al 40 d297_39 rfl rfl rfl (bc) ?_
      rw [nc]
      refine wq_s 41 d297_40 rfl rfl (Nat.le_of_ble_eq_true rfl) rfl rfl ?_
      refine wq_g 7 d297_41 (by decide) ?_
      rw [show (rl_k l c == 11) = true from beq_iff_eq.mpr (hp_inj (b := 11) (by omega) (by decide) c19), Bool.true_or, Bool.true_and] at hQ
      exact ih (c + rl_z l c) hn' c3 hm' hQ
    · -- pc 22
      refine wq_l 23 d297_22 rfl rfl rfl rfl ?_
      refine wq_gr (ci := 10) (j := 23) (q := 56) 26 d297_23 rfl rfl rfl rfl ?_
      refine wq_l 27 d297_26 rfl rfl rfl rfl ?_
      refine wq_al 28 d297_27 rfl rfl rfl (bc) ?_
      rw [rt_t h cl]
      refine wq_b 34 31 d297_28 rfl (by decide) rfl (fun c28 => ?_) (fun c28 => ?_)
      · -- pc 34
        refine wq_l 35 d297_34 rfl rfl rfl rfl ?_
        refine wq_gr (ci := 10) (j := 21) (q := 54) 38 d297_35 rfl rfl rfl rfl ?_
        refine wq_l 39 d297_38 rfl rfl rfl rfl ?_
        refine wq_al 40 d297_39 rfl rfl rfl (bc) ?_
        rw [nc]
        refine wq_s 41 d297_40 rfl rfl (Nat.le_of_ble_eq_true rfl) rfl rfl ?_
        refine wq_g 7 d297_41 (by decide) ?_
        rw [show decide (A.2.1 c = 0) = true from decide_eq_true c28, Bool.or_true, Bool.true_and] at hQ
        exact ih (c + rl_z l c) hn' c3 hm' hQ
      · -- pc 31
        refine wq_k 33 34 d297_31 (by decide) rfl ?_
        refine wq_ri d297_33 (rfl) ?_
        rw [show (rl_k l c == 11) = false from beq_false_of_ne (fun z => c19 (by rw [z]; rfl)), show decide (A.2.1 c = 0) = false from decide_eq_false c28, Bool.false_or, Bool.false_and, if_neg (by decide)] at hQ
        exact hQ
theorem re297 {d : Nat} {l : List pg_N} {a : Nat → Nat} {R : Int32 → Int32 → Prop} {σ0 σ : pm_S} {fl : Bool} {u : Nat} {A : rl_A} {Q : Option Value → pm_S → Prop} {NN i : Nat} (hG : lg_G l NN) (h : rr_I l a R σ0 σ fl u A) (hi : i < l.length) (hQ : rr_Q l a R σ0 fl u (if ((rl_c l i).all (fun c => rl_k l c == 11 || decide (A.2.1 c = 0))) = true then 0 else 34, A) Q) : pm_call pm_Y0 (d + 1) 297 [.ref 10, .int (nI (a i))] σ Q := by
  obtain ⟨z1, z2, z3⟩ := lg_cl hG hi
  refine wq_m m297 (Nat.le_of_ble_eq_true rfl) (by decide) rfl ?_
  refine wq_l 1 d297_0 rfl rfl rfl rfl ?_
  refine wq_gr (ci := 10) (j := 19) (q := 52) 4 d297_1 rfl rfl rfl rfl ?_
  refine wq_l 5 d297_4 rfl rfl rfl rfl ?_
  refine wq_al 6 d297_5 rfl rfl rfl (rt_b (rr_T h) hi) ?_
  rw [rt_f (rr_T h) hG hi]
  refine wq_s 7 d297_6 rfl rfl (Nat.le_of_ble_eq_true rfl) rfl rfl ?_
  exact re297l hG h hi _ (i + 1) rfl z3 (fun x hx => hx) (hQ σ (rr_Fi h) (fun _ => h))
theorem re303l {d : Nat} {l : List pg_N} {a : Nat → Nat} {R : Int32 → Int32 → Prop} {σ0 σ : pm_S} {fl : Bool} {u : Nat} {A : rl_A} {Q : Option Value → pm_S → Prop} {NN i : Nat} (hG : lg_G l NN) (h : rr_I l a R σ0 σ fl u A) (hi : i < l.length) : ∀ (n c k : Nat), (rl_row l c (i + rl_z l i)).length = n → rl_cl l c (i + rl_z l i) → (∀ x ∈ rl_row l c (i + rl_z l i), x ∈ rl_c l i) → Q (some (.int (nI (k + ((rl_row l c (i + rl_z l i)).filter (fun c => rl_k l c != 29)).length)))) σ → pm_WP pm_Y0 (pm_call pm_Y0 (d)) 10 prog_14_method_111_code (some FieldType.int) Q 9 [.ref 10, .int (nI (a i)), .int (nI k), .int (if c < i + rl_z l i then nI (a c) else -1)] [] σ := by
  obtain ⟨z1, z2, z3⟩ := lg_cl hG hi
  intro n
  induction n with
  | zero =>
    intro c k hn hc hm hQ
    have q : ¬ c < i + rl_z l i := fun q => by rw [rl_rowu z1 hc q] at hn; exact absurd hn (by simp)
    rw [if_neg q]
    rw [rl_row0 q] at hQ
    refine wq_l 10 d303_9 rfl rfl rfl rfl ?_
    refine wq_b 42 13 d303_10 rfl (by decide) rfl (fun c10 => ?_) (fun c10 => absurd (by decide) c10)
    refine wq_l 43 d303_42 rfl rfl rfl rfl ?_
    refine wq_ri d303_43 (rfl) ?_
    exact hQ
  | succ n ih =>
    intro c k hn hc hm hQ
    have q : c < i + rl_z l i := by
      rcases Nat.lt_or_ge c (i + rl_z l i) with w | w
      · exact w
      · rw [rl_row0 (by omega)] at hn; exact absurd hn (by simp)
    have er := rl_rowu z1 hc q
    obtain ⟨c1, c2, c3⟩ := rl_clz hc q
    have mc : c ∈ rl_c l i := hm c (by rw [er]; exact List.mem_cons_self)
    have cl : c < l.length := by omega
    have bc := rt_b (rr_T h) cl
    have nc := rt_n (rr_T h) hG hi mc
    have nn := rt_nn (rr_T h) cl
    have kk := (lg_V hG cl).1
    rw [if_pos q]
    rw [er] at hQ
    have hn' : (rl_row l (c + rl_z l c) (i + rl_z l i)).length = n := by rw [er, List.length_cons] at hn; omega
    have hm' : ∀ x ∈ rl_row l (c + rl_z l c) (i + rl_z l i), x ∈ rl_c l i := fun x hx => hm x (by rw [er]; exact List.mem_cons_of_mem _ hx)
    refine wq_l 10 d303_9 rfl rfl rfl rfl ?_
    refine wq_b 42 13 d303_10 rfl (by decide) rfl (fun c10 => absurd c10 (nn)) (fun c10 => ?_)
    refine wq_l 14 d303_13 rfl rfl rfl rfl ?_
    refine wq_l 15 d303_14 rfl rfl rfl rfl ?_
    refine wq_gr (ci := 10) (j := 16) (q := 49) 18 d303_15 rfl rfl rfl rfl ?_
    refine wq_l 19 d303_18 rfl rfl rfl rfl ?_
    refine wq_al 20 d303_19 rfl rfl rfl (bc) ?_
    rw [rt_k (rr_T h) cl]
    refine wq_k 22 29 d303_20 (by decide) rfl ?_
    refine wq_b 29 25 d303_22 rfl (by decide) rfl (fun c22 => ?_) (fun c22 => ?_)
    · -- pc 29
      refine wq_k 30 1 d303_29 (by decide) rfl ?_
      refine wq_a 31 d303_30 rfl rfl ?_
      refine wq_s 32 d303_31 rfl rfl (Nat.le_of_ble_eq_true rfl) rfl rfl ?_
      refine wq_l 33 d303_32 rfl rfl rfl rfl ?_
      refine wq_gr (ci := 10) (j := 21) (q := 54) 36 d303_33 rfl rfl rfl rfl ?_
      refine wq_l 37 d303_36 rfl rfl rfl rfl ?_
      refine wq_al 38 d303_37 rfl rfl rfl (bc) ?_
      rw [nc]
      refine wq_s 39 d303_38 rfl rfl (Nat.le_of_ble_eq_true rfl) rfl rfl ?_
      refine wq_g 9 d303_39 (by decide) ?_
      rw [List.filter_cons_of_pos (by rw [bne_iff_ne]; exact fun z => c22 (by rw [z]; rfl)), List.length_cons, show k + (((rl_row l (c + rl_z l c) (i + rl_z l i)).filter (fun c => rl_k l c != 29)).length + 1) = (k + 1) + ((rl_row l (c + rl_z l c) (i + rl_z l i)).filter (fun c => rl_k l c != 29)).length by omega] at hQ
      rw [nI_1]
      exact ih (c + rl_z l c) (k + 1) hn' c3 hm' hQ
    · -- pc 25
      refine wq_k 26 0 d303_25 (by decide) rfl ?_
      refine wq_g 30 d303_26 (by decide) ?_
      refine wq_a 31 d303_30 rfl rfl ?_
      refine wq_s 32 d303_31 rfl rfl (Nat.le_of_ble_eq_true rfl) rfl rfl ?_
      refine wq_l 33 d303_32 rfl rfl rfl rfl ?_
      refine wq_gr (ci := 10) (j := 21) (q := 54) 36 d303_33 rfl rfl rfl rfl ?_
      refine wq_l 37 d303_36 rfl rfl rfl rfl ?_
      refine wq_al 38 d303_37 rfl rfl rfl (bc) ?_
      rw [nc]
      refine wq_s 39 d303_38 rfl rfl (Nat.le_of_ble_eq_true rfl) rfl rfl ?_
      refine wq_g 9 d303_39 (by decide) ?_
      rw [List.filter_cons_of_neg (by rw [bne_iff_ne]; exact fun z => z (hp_inj (b := 29) (by omega) (by decide) (Classical.not_not.mp c22)))] at hQ
      rw [show nI k + 0 = nI k from Int32.add_zero _]
      exact ih (c + rl_z l c) k hn' c3 hm' hQ
theorem re303 {d : Nat} {l : List pg_N} {a : Nat → Nat} {R : Int32 → Int32 → Prop} {σ0 σ : pm_S} {fl : Bool} {u : Nat} {A : rl_A} {Q : Option Value → pm_S → Prop} {NN i : Nat} (hG : lg_G l NN) (h : rr_I l a R σ0 σ fl u A) (hi : i < l.length) (hQ : Q (some (.int (nI (rl_cells l i)))) σ) : pm_call pm_Y0 (d + 1) 303 [.ref 10, .int (nI (a i))] σ Q := by
  obtain ⟨z1, z2, z3⟩ := lg_cl hG hi
  refine wq_m m303 (Nat.le_of_ble_eq_true rfl) (by decide) rfl ?_
  refine wq_k 1 0 d303_0 (by decide) rfl ?_
  refine wq_s 2 d303_1 rfl rfl (Nat.le_of_ble_eq_true rfl) rfl rfl ?_
  refine wq_l 3 d303_2 rfl rfl rfl rfl ?_
  refine wq_gr (ci := 10) (j := 19) (q := 52) 6 d303_3 rfl rfl rfl rfl ?_
  refine wq_l 7 d303_6 rfl rfl rfl rfl ?_
  refine wq_al 8 d303_7 rfl rfl rfl (rt_b (rr_T h) hi) ?_
  rw [rt_f (rr_T h) hG hi]
  refine wq_s 9 d303_8 rfl rfl (Nat.le_of_ble_eq_true rfl) rfl rfl ?_
  refine re303l hG h hi _ (i + 1) 0 rfl z3 (fun x hx => hx) ?_
  rw [Nat.zero_add]
  exact hQ
def rl_rg (l : List pg_N) (i r : Nat) : Bool := decide (rl_cells l r ≤ 12 ∧ rl_cells l r = rl_cells l (i + 1))
theorem rl_celll {l : List pg_N} {NN i : Nat} (hG : lg_G l NN) : rl_cells l i ≤ 16386 := Nat.le_trans (List.length_filter_le _ _) (rl_clen hG)
theorem re302l {d : Nat} {l : List pg_N} {a : Nat → Nat} {R : Int32 → Int32 → Prop} {σ0 σ : pm_S} {fl : Bool} {u : Nat} {A : rl_A} {Q : Option Value → pm_S → Prop} {NN i : Nat} (hG : lg_G l NN) (h : rr_I l a R σ0 σ fl u A) (hi : i < l.length) (hi1 : i + 1 < l.length) (hz : i + 1 < i + rl_z l i) : ∀ (n c k : Nat) (f : Bool), (rl_row l c (i + rl_z l i)).length = n → rl_cl l c (i + rl_z l i) → (∀ x ∈ rl_row l c (i + rl_z l i), x ∈ rl_c l i) → k + n < 2 ^ 20 → Q (some (.int (nI (if k + n ≤ 12 ∧ (f && (rl_row l c (i + rl_z l i)).all (rl_rg l i)) = true then 0 else 38)))) σ → pm_WP pm_Y0 (pm_call pm_Y0 (d + 1)) 10 prog_14_method_112_code (some FieldType.int) Q 12 [.ref 10, .int (nI (a i)), .int (nI k), .int (b2 f), .int (if c < i + rl_z l i then nI (a c) else -1)] [] σ := by
  obtain ⟨z1, z2, z3⟩ := lg_cl hG hi
  intro n
  induction n with
  | zero =>
    intro c k f hn hc hm hkl hQ
    have q : ¬ c < i + rl_z l i := fun q => by rw [rl_rowu z1 hc q] at hn; exact absurd hn (by simp)
    rw [if_neg q]
    rw [rl_row0 q] at hQ
    rw [List.all_nil, Bool.and_true, Nat.add_zero] at hQ
    have ek := nI_toInt (n := k) (by omega)
    refine wq_l 14 d302_12 rfl rfl rfl rfl ?_
    refine wq_b 72 17 d302_14 rfl (by decide) rfl (fun c14 => ?_) (fun c14 => absurd (by decide) c14)
    refine wq_l 73 d302_72 rfl rfl rfl rfl ?_
    refine wq_b 86 76 d302_73 rfl (by decide) rfl (fun c73 => ?_) (fun c73 => ?_)
    · -- pc 86
      have f73 := b2z c73
      refine wq_k 88 38 d302_86 (by decide) rfl ?_
      refine wq_ri d302_88 (rfl) ?_
      rw [if_neg (fun z => by rw [f73] at z; exact absurd z.2 (by decide))] at hQ
      exact hQ
    · -- pc 76
      have f73 := b2n c73
      refine wq_l 77 d302_76 rfl rfl rfl rfl ?_
      refine wq_k 79 12 d302_77 (by decide) rfl ?_
      refine wq_b 86 82 d302_79 rfl (by decide) rfl (fun c79 => ?_) (fun c79 => ?_)
      · -- pc 86
        refine wq_k 88 38 d302_86 (by decide) rfl ?_
        refine wq_ri d302_88 (rfl) ?_
        rw [if_neg (fun z => by rw [i_lt, ek] at c79; have c79 : (12 : Int) < _ := c79; omega)] at hQ
        exact hQ
      · -- pc 82
        refine wq_k 83 0 d302_82 (by decide) rfl ?_
        refine wq_g 88 d302_83 (by decide) ?_
        refine wq_ri d302_88 (rfl) ?_
        rw [if_pos ⟨by rw [i_lt, ek] at c79; have c79 : ¬ (12 : Int) < _ := c79; omega, f73⟩] at hQ
        exact hQ
  | succ n ih =>
    intro c k f hn hc hm hkl hQ
    have q : c < i + rl_z l i := by
      rcases Nat.lt_or_ge c (i + rl_z l i) with w | w
      · exact w
      · rw [rl_row0 (by omega)] at hn; exact absurd hn (by simp)
    have er := rl_rowu z1 hc q
    obtain ⟨c1, c2, c3⟩ := rl_clz hc q
    have mc : c ∈ rl_c l i := hm c (by rw [er]; exact List.mem_cons_self)
    have cl : c < l.length := by omega
    have bc := rt_b (rr_T h) cl
    have nc := rt_n (rr_T h) hG hi mc
    have nn := rt_nn (rr_T h) cl
    have kk := (lg_V hG cl).1
    rw [if_pos q]
    rw [er] at hQ
    have hn' : (rl_row l (c + rl_z l c) (i + rl_z l i)).length = n := by rw [er, List.length_cons] at hn; omega
    have hm' : ∀ x ∈ rl_row l (c + rl_z l c) (i + rl_z l i), x ∈ rl_c l i := fun x hx => hm x (by rw [er]; exact List.mem_cons_of_mem _ hx)
    rw [List.all_cons, show k + (n + 1) = k + 1 + n by omega] at hQ
    have ef := (rt_f (rr_T h) hG hi).trans (if_pos hz)
    have x1 := rl_celll (i := c) hG
    have x2 := rl_celll (i := i + 1) hG
    have ek := nI_toInt (n := rl_cells l c) (by omega)
    have next : ∀ g : Bool, (f && rl_rg l i c) = g → pm_WP pm_Y0 (pm_call pm_Y0 (d + 1)) 10 prog_14_method_112_code (some FieldType.int) Q 12 [.ref 10, .int (nI (a i)), .int (nI (k + 1)), .int (b2 g), .int (if c + rl_z l c < i + rl_z l i then nI (a (c + rl_z l c)) else -1)] [] σ := fun g hg => by
      refine ih (c + rl_z l c) (k + 1) g hn' c3 hm' (by omega) ?_
      rw [← hg, Bool.and_assoc]
      exact hQ
    refine wq_l 14 d302_12 rfl rfl rfl rfl ?_
    refine wq_b 72 17 d302_14 rfl (by decide) rfl (fun c14 => absurd c14 (nn)) (fun c14 => ?_)
    refine wq_i 20 d302_17 rfl rfl rfl ?_
    refine wq_l 21 d302_20 rfl rfl rfl rfl ?_
    refine wq_b 58 24 d302_21 rfl (by decide) rfl (fun c21 => ?_) (fun c21 => ?_)
    · -- pc 58
      have f21 := b2z c21
      refine wq_k 59 0 d302_58 (by decide) rfl ?_
      refine wq_s 60 d302_59 rfl rfl (Nat.le_of_ble_eq_true rfl) rfl rfl ?_
      refine wq_l 61 d302_60 rfl rfl rfl rfl ?_
      refine wq_gr (ci := 10) (j := 21) (q := 54) 64 d302_61 rfl rfl rfl rfl ?_
      refine wq_l 66 d302_64 rfl rfl rfl rfl ?_
      refine wq_al 67 d302_66 rfl rfl rfl (bc) ?_
      rw [nc]
      refine wq_s 69 d302_67 rfl rfl (Nat.le_of_ble_eq_true rfl) rfl rfl ?_
      refine wq_g 12 d302_69 (by decide) ?_
      rw [show nI k + Int32.ofInt 1 = nI (k + 1) from nI_1 k]
      exact next false (by rw [f21, Bool.false_and])
    · -- pc 24
      have f21 := b2n c21
      refine wq_l 25 d302_24 rfl rfl rfl rfl ?_
      refine wq_l 27 d302_25 rfl rfl rfl rfl ?_
      refine wq_v 30 [_] d302_27 rfl rfl m303 rfl rfl (Nat.le_of_ble_eq_true rfl) rfl (re303 hG h (i := c) cl ?_)
      refine wq_k 32 12 d302_30 (by decide) rfl ?_
      refine wq_b 58 35 d302_32 rfl (by decide) rfl (fun c32 => ?_) (fun c32 => ?_)
      · -- pc 58
        refine wq_k 59 0 d302_58 (by decide) rfl ?_
        refine wq_s 60 d302_59 rfl rfl (Nat.le_of_ble_eq_true rfl) rfl rfl ?_
        refine wq_l 61 d302_60 rfl rfl rfl rfl ?_
        refine wq_gr (ci := 10) (j := 21) (q := 54) 64 d302_61 rfl rfl rfl rfl ?_
        refine wq_l 66 d302_64 rfl rfl rfl rfl ?_
        refine wq_al 67 d302_66 rfl rfl rfl (bc) ?_
        rw [nc]
        refine wq_s 69 d302_67 rfl rfl (Nat.le_of_ble_eq_true rfl) rfl rfl ?_
        refine wq_g 12 d302_69 (by decide) ?_
        rw [show nI k + Int32.ofInt 1 = nI (k + 1) from nI_1 k]
        exact next false (by rw [show rl_rg l i c = false from decide_eq_false (fun z => by rw [i_lt, ek] at c32; have c32 : (12 : Int) < _ := c32; omega), Bool.and_false])
      · -- pc 35
        refine wq_l 36 d302_35 rfl rfl rfl rfl ?_
        refine wq_l 38 d302_36 rfl rfl rfl rfl ?_
        refine wq_v 41 [_] d302_38 rfl rfl m303 rfl rfl (Nat.le_of_ble_eq_true rfl) rfl (re303 hG h (i := c) cl ?_)
        refine wq_l 42 d302_41 rfl rfl rfl rfl ?_
        refine wq_l 43 d302_42 rfl rfl rfl rfl ?_
        refine wq_gr (ci := 10) (j := 19) (q := 52) 46 d302_43 rfl rfl rfl rfl ?_
        refine wq_l 47 d302_46 rfl rfl rfl rfl ?_
        refine wq_al 48 d302_47 rfl rfl rfl (rt_b (rr_T h) hi) ?_
        rw [ef]
        refine wq_v 51 [_] d302_48 rfl rfl m303 rfl rfl (Nat.le_of_ble_eq_true rfl) rfl (re303 hG h (i := i + 1) hi1 ?_)
        refine wq_b 58 54 d302_51 rfl (by decide) rfl (fun c51 => ?_) (fun c51 => ?_)
        · -- pc 58
          refine wq_k 59 0 d302_58 (by decide) rfl ?_
          refine wq_s 60 d302_59 rfl rfl (Nat.le_of_ble_eq_true rfl) rfl rfl ?_
          refine wq_l 61 d302_60 rfl rfl rfl rfl ?_
          refine wq_gr (ci := 10) (j := 21) (q := 54) 64 d302_61 rfl rfl rfl rfl ?_
          refine wq_l 66 d302_64 rfl rfl rfl rfl ?_
          refine wq_al 67 d302_66 rfl rfl rfl (bc) ?_
          rw [nc]
          refine wq_s 69 d302_67 rfl rfl (Nat.le_of_ble_eq_true rfl) rfl rfl ?_
          refine wq_g 12 d302_69 (by decide) ?_
          rw [show nI k + Int32.ofInt 1 = nI (k + 1) from nI_1 k]
          exact next false (by rw [show rl_rg l i c = false from decide_eq_false (fun z => c51 (congrArg nI z.2)), Bool.and_false])
        · -- pc 54
          refine wq_k 55 1 d302_54 (by decide) rfl ?_
          refine wq_g 59 d302_55 (by decide) ?_
          refine wq_s 60 d302_59 rfl rfl (Nat.le_of_ble_eq_true rfl) rfl rfl ?_
          refine wq_l 61 d302_60 rfl rfl rfl rfl ?_
          refine wq_gr (ci := 10) (j := 21) (q := 54) 64 d302_61 rfl rfl rfl rfl ?_
          refine wq_l 66 d302_64 rfl rfl rfl rfl ?_
          refine wq_al 67 d302_66 rfl rfl rfl (bc) ?_
          rw [nc]
          refine wq_s 69 d302_67 rfl rfl (Nat.le_of_ble_eq_true rfl) rfl rfl ?_
          refine wq_g 12 d302_69 (by decide) ?_
          rw [show nI k + Int32.ofInt 1 = nI (k + 1) from nI_1 k]
          exact next true (by rw [f21, show rl_rg l i c = true from decide_eq_true ⟨by rw [i_lt, ek] at c32; have c32 : ¬ (12 : Int) < _ := c32; omega, hp_inj (by omega) (by omega) (Classical.not_not.mp c51)⟩]; rfl)
theorem re302 {d : Nat} {l : List pg_N} {a : Nat → Nat} {R : Int32 → Int32 → Prop} {σ0 σ : pm_S} {fl : Bool} {u : Nat} {A : rl_A} {Q : Option Value → pm_S → Prop} {NN i : Nat} (hG : lg_G l NN) (h : rr_I l a R σ0 σ fl u A) (hi : i + 1 < l.length) (hz : i + 1 < i + rl_z l i) (hQ : rr_Q l a R σ0 fl u (rl_rung l i, A) Q) : pm_call pm_Y0 (d + 2) 302 [.ref 10, .int (nI (a i))] σ Q := by
  have i0 : i < l.length := by omega
  obtain ⟨z1, z2, z3⟩ := lg_cl hG i0
  have hcl := rl_clen hG (i := i)
  refine wq_m m302 (Nat.le_of_ble_eq_true rfl) (by decide) rfl ?_
  refine wq_k 1 0 d302_0 (by decide) rfl ?_
  refine wq_s 2 d302_1 rfl rfl (Nat.le_of_ble_eq_true rfl) rfl rfl ?_
  refine wq_k 3 1 d302_2 (by decide) rfl ?_
  refine wq_s 4 d302_3 rfl rfl (Nat.le_of_ble_eq_true rfl) rfl rfl ?_
  refine wq_l 5 d302_4 rfl rfl rfl rfl ?_
  refine wq_gr (ci := 10) (j := 19) (q := 52) 8 d302_5 rfl rfl rfl rfl ?_
  refine wq_l 9 d302_8 rfl rfl rfl rfl ?_
  refine wq_al 10 d302_9 rfl rfl rfl (rt_b (rr_T h) i0) ?_
  rw [rt_f (rr_T h) hG i0]
  refine wq_s 12 d302_10 rfl rfl (Nat.le_of_ble_eq_true rfl) rfl rfl ?_
  refine re302l hG h i0 hi hz (rl_c l i).length (i + 1) 0 true rfl z3 (fun x hx => hx) (by omega) ?_
  rw [Nat.zero_add, Bool.true_and]
  exact hQ σ (rr_Fi h) (fun _ => h)
theorem re299 {d : Nat} {l : List pg_N} {a : Nat → Nat} {R : Int32 → Int32 → Prop} {σ0 σ : pm_S} {fl : Bool} {u : Nat} {A : rl_A} {Q : Option Value → pm_S → Prop} {NN i e : Nat} (hG : lg_G l NN) (h : rr_I l a R σ0 σ fl u A) (hi : i + 1 < l.length) (hz : i + 1 < i + rl_z l i) (hel : e < l.length) (hcs : (rl_c l i).getLast? = some e) (hk1 : rp_nk (rl_k l (i + 1)) = false) (hk2 : rp_nk (rl_k l e) = false) (hQ : rr_Q l a R σ0 fl u (if rl_k l (i + 1) = 31 ∨ rl_k l e = 31 ∨ rl_v l e < rl_v l (i + 1) then 35 else 0, A) Q) : pm_call pm_Y0 (d + 1) 299 [.ref 10, .int (nI (a i))] σ Q := by
  have i0 : i < l.length := by omega
  have bi := rt_b (rr_T h) i0
  have ef := (rt_f (rr_T h) hG i0).trans (if_pos hz)
  have el := rt_l (rr_T h) i0 hcs
  have b1 := rt_b (rr_T h) hi
  have b2 := rt_b (rr_T h) hel
  have k1 := (lg_V hG hi).1
  have k2 := (lg_V hG hel).1
  refine wq_m m299 (Nat.le_of_ble_eq_true rfl) (by decide) rfl ?_
  refine wq_l 1 d299_0 rfl rfl rfl rfl ?_
  refine wq_gr (ci := 10) (j := 16) (q := 49) 4 d299_1 rfl rfl rfl rfl ?_
  refine wq_l 5 d299_4 rfl rfl rfl rfl ?_
  refine wq_gr (ci := 10) (j := 19) (q := 52) 8 d299_5 rfl rfl rfl rfl ?_
  refine wq_l 9 d299_8 rfl rfl rfl rfl ?_
  refine wq_al 10 d299_9 rfl rfl rfl (bi) ?_
  rw [ef]
  refine wq_al 11 d299_10 rfl rfl rfl (b1) ?_
  rw [rt_k (rr_T h) hi]
  refine wq_k 13 31 d299_11 (by decide) rfl ?_
  refine wq_b 57 16 d299_13 rfl (by decide) rfl (fun c13 => ?_) (fun c13 => ?_)
  · -- pc 57
    refine wq_k 58 1 d299_57 (by decide) rfl ?_
    refine wq_g 62 d299_58 (by decide) ?_
    refine wq_s 63 d299_62 rfl rfl (Nat.le_of_ble_eq_true rfl) rfl rfl ?_
    refine wq_l 64 d299_63 rfl rfl rfl rfl ?_
    refine wq_b 72 67 d299_64 rfl (by decide) rfl (fun c64 => absurd c64 (by decide)) (fun c64 => ?_)
    refine wq_k 69 35 d299_67 (by decide) rfl ?_
    refine wq_g 73 d299_69 (by decide) ?_
    refine wq_ri d299_73 (rfl) ?_
    exact rr_q1 (k := 35) hQ (rr_Fi h) (if_pos (Or.inl (hp_inj (b := 31) (by omega) (by decide) c13))) (by decide)
  · -- pc 16
    refine wq_l 17 d299_16 rfl rfl rfl rfl ?_
    refine wq_gr (ci := 10) (j := 16) (q := 49) 20 d299_17 rfl rfl rfl rfl ?_
    refine wq_l 21 d299_20 rfl rfl rfl rfl ?_
    refine wq_gr (ci := 10) (j := 20) (q := 53) 24 d299_21 rfl rfl rfl rfl ?_
    refine wq_l 25 d299_24 rfl rfl rfl rfl ?_
    refine wq_al 26 d299_25 rfl rfl rfl (bi) ?_
    rw [el]
    refine wq_al 27 d299_26 rfl rfl rfl (b2) ?_
    rw [rt_k (rr_T h) hel]
    refine wq_k 29 31 d299_27 (by decide) rfl ?_
    refine wq_b 57 32 d299_29 rfl (by decide) rfl (fun c29 => ?_) (fun c29 => ?_)
    · -- pc 57
      refine wq_k 58 1 d299_57 (by decide) rfl ?_
      refine wq_g 62 d299_58 (by decide) ?_
      refine wq_s 63 d299_62 rfl rfl (Nat.le_of_ble_eq_true rfl) rfl rfl ?_
      refine wq_l 64 d299_63 rfl rfl rfl rfl ?_
      refine wq_b 72 67 d299_64 rfl (by decide) rfl (fun c64 => absurd c64 (by decide)) (fun c64 => ?_)
      refine wq_k 69 35 d299_67 (by decide) rfl ?_
      refine wq_g 73 d299_69 (by decide) ?_
      refine wq_ri d299_73 (rfl) ?_
      exact rr_q1 (k := 35) hQ (rr_Fi h) (if_pos (Or.inr (Or.inl (hp_inj (b := 31) (by omega) (by decide) c29)))) (by decide)
    · -- pc 32
      refine wq_l 33 d299_32 rfl rfl rfl rfl ?_
      refine wq_gr (ci := 10) (j := 18) (q := 51) 36 d299_33 rfl rfl rfl rfl ?_
      refine wq_l 37 d299_36 rfl rfl rfl rfl ?_
      refine wq_gr (ci := 10) (j := 19) (q := 52) 40 d299_37 rfl rfl rfl rfl ?_
      refine wq_l 41 d299_40 rfl rfl rfl rfl ?_
      refine wq_al 42 d299_41 rfl rfl rfl (bi) ?_
      rw [ef]
      refine wq_al 43 d299_42 rfl rfl rfl (b1) ?_
      rw [rt_v (rr_T h) hi hk1]
      refine wq_l 44 d299_43 rfl rfl rfl rfl ?_
      refine wq_gr (ci := 10) (j := 18) (q := 51) 47 d299_44 rfl rfl rfl rfl ?_
      refine wq_l 48 d299_47 rfl rfl rfl rfl ?_
      refine wq_gr (ci := 10) (j := 20) (q := 53) 51 d299_48 rfl rfl rfl rfl ?_
      refine wq_l 52 d299_51 rfl rfl rfl rfl ?_
      refine wq_al 53 d299_52 rfl rfl rfl (bi) ?_
      rw [el]
      refine wq_al 54 d299_53 rfl rfl rfl (b2) ?_
      rw [rt_v (rr_T h) hel hk2]
      refine wq_b 61 57 d299_54 rfl (by decide) rfl (fun c54 => ?_) (fun c54 => ?_)
      · -- pc 61
        refine wq_k 62 0 d299_61 (by decide) rfl ?_
        refine wq_s 63 d299_62 rfl rfl (Nat.le_of_ble_eq_true rfl) rfl rfl ?_
        refine wq_l 64 d299_63 rfl rfl rfl rfl ?_
        refine wq_b 72 67 d299_64 rfl (by decide) rfl (fun c64 => ?_) (fun c64 => absurd (by decide) c64)
        refine wq_k 73 0 d299_72 (by decide) rfl ?_
        refine wq_ri d299_73 (rfl) ?_
        exact rr_q0 hQ h (if_neg (fun z => z.elim (fun y => c13 (by rw [y]; rfl)) (fun y => y.elim (fun w => c29 (by rw [w]; rfl)) (fun w => absurd w (Int32.not_lt.mpr c54)))))
      · -- pc 57
        refine wq_k 58 1 d299_57 (by decide) rfl ?_
        refine wq_g 62 d299_58 (by decide) ?_
        refine wq_s 63 d299_62 rfl rfl (Nat.le_of_ble_eq_true rfl) rfl rfl ?_
        refine wq_l 64 d299_63 rfl rfl rfl rfl ?_
        refine wq_b 72 67 d299_64 rfl (by decide) rfl (fun c64 => absurd c64 (by decide)) (fun c64 => ?_)
        refine wq_k 69 35 d299_67 (by decide) rfl ?_
        refine wq_g 73 d299_69 (by decide) ?_
        refine wq_ri d299_73 (rfl) ?_
        exact rr_q1 (k := 35) hQ (rr_Fi h) (if_pos (Or.inr (Or.inr (Int32.not_le.mp c54)))) (by decide)
