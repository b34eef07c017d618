theorem d185_0 : decode prog_8_method_7_code 0 = .ok (.aload_n 0, 1) := by decide +kernel
theorem d185_1 : decode prog_8_method_7_code 1 = .ok (.getfield 9, 3) := by decide +kernel
theorem d185_4 : decode prog_8_method_7_code 4 = .ok (.iload_n 1, 1) := by decide +kernel
theorem d185_5 : decode prog_8_method_7_code 5 = .ok (.invokevirtual 122, 3) := by decide +kernel
theorem d185_8 : decode prog_8_method_7_code 8 = .ok (.istore_n 2, 1) := by decide +kernel
theorem d185_9 : decode prog_8_method_7_code 9 = .ok (.aload_n 0, 1) := by decide +kernel
theorem d185_10 : decode prog_8_method_7_code 10 = .ok (.aload_n 0, 1) := by decide +kernel
theorem d185_11 : decode prog_8_method_7_code 11 = .ok (.getfield 9, 3) := by decide +kernel
theorem d185_14 : decode prog_8_method_7_code 14 = .ok (.iload_n 2, 1) := by decide +kernel
theorem d185_15 : decode prog_8_method_7_code 15 = .ok (.invokevirtual 92, 3) := by decide +kernel
theorem d185_18 : decode prog_8_method_7_code 18 = .ok (.invokevirtual 87, 3) := by decide +kernel
theorem d185_21 : decode prog_8_method_7_code 21 = .ok (.istore_n 3, 1) := by decide +kernel
theorem d185_22 : decode prog_8_method_7_code 22 = .ok (.aload_n 0, 1) := by decide +kernel
theorem d185_23 : decode prog_8_method_7_code 23 = .ok (.getfield 25, 3) := by decide +kernel
theorem d185_26 : decode prog_8_method_7_code 26 = .ok (.iload_n 3, 1) := by decide +kernel
theorem d185_27 : decode prog_8_method_7_code 27 = .ok (.invokevirtual 104, 3) := by decide +kernel
theorem d185_30 : decode prog_8_method_7_code 30 = .ok (.bipush 10, 2) := by decide +kernel
theorem d185_32 : decode prog_8_method_7_code 32 = .ok (.if_icmp .eq 5, 3) := by decide +kernel
theorem d185_35 : decode prog_8_method_7_code 35 = .ok (.iconst 0, 1) := by decide +kernel
theorem d185_36 : decode prog_8_method_7_code 36 = .ok (.ireturn, 1) := by decide +kernel
theorem d185_37 : decode prog_8_method_7_code 37 = .ok (.aload_n 0, 1) := by decide +kernel
theorem d185_38 : decode prog_8_method_7_code 38 = .ok (.getfield 9, 3) := by decide +kernel
theorem d185_41 : decode prog_8_method_7_code 41 = .ok (.iload_n 1, 1) := by decide +kernel
theorem d185_42 : decode prog_8_method_7_code 42 = .ok (.invokevirtual 92, 3) := by decide +kernel
theorem d185_45 : decode prog_8_method_7_code 45 = .ok (.istore 4, 2) := by decide +kernel
theorem d185_47 : decode prog_8_method_7_code 47 = .ok (.aload_n 0, 1) := by decide +kernel
theorem d185_48 : decode prog_8_method_7_code 48 = .ok (.getfield 25, 3) := by decide +kernel
theorem d185_51 : decode prog_8_method_7_code 51 = .ok (.aload_n 0, 1) := by decide +kernel
theorem d185_52 : decode prog_8_method_7_code 52 = .ok (.getfield 25, 3) := by decide +kernel
theorem d185_55 : decode prog_8_method_7_code 55 = .ok (.iload_n 3, 1) := by decide +kernel
theorem d185_56 : decode prog_8_method_7_code 56 = .ok (.invokevirtual 109, 3) := by decide +kernel
theorem d185_59 : decode prog_8_method_7_code 59 = .ok (.iload 4, 2) := by decide +kernel
theorem d185_61 : decode prog_8_method_7_code 61 = .ok (.iconst 1, 1) := by decide +kernel
theorem d185_62 : decode prog_8_method_7_code 62 = .ok (.invokevirtual 125, 3) := by decide +kernel
theorem d185_65 : decode prog_8_method_7_code 65 = .ok (.istore 5, 2) := by decide +kernel
theorem d185_67 : decode prog_8_method_7_code 67 = .ok (.iload 5, 2) := by decide +kernel
theorem d185_69 : decode prog_8_method_7_code 69 = .ok (.iconst (-1), 1) := by decide +kernel
theorem d185_70 : decode prog_8_method_7_code 70 = .ok (.if_icmp .ne 6, 3) := by decide +kernel
theorem d185_73 : decode prog_8_method_7_code 73 = .ok (.bipush 32, 2) := by decide +kernel
theorem d185_75 : decode prog_8_method_7_code 75 = .ok (.ireturn, 1) := by decide +kernel
theorem d185_76 : decode prog_8_method_7_code 76 = .ok (.iload_n 2, 1) := by decide +kernel
theorem d185_77 : decode prog_8_method_7_code 77 = .ok (.iconst 1, 1) := by decide +kernel
theorem d185_78 : decode prog_8_method_7_code 78 = .ok (.iadd, 1) := by decide +kernel
theorem d185_79 : decode prog_8_method_7_code 79 = .ok (.istore 6, 2) := by decide +kernel
theorem d185_81 : decode prog_8_method_7_code 81 = .ok (.iload 6, 2) := by decide +kernel
theorem d185_83 : decode prog_8_method_7_code 83 = .ok (.iload_n 1, 1) := by decide +kernel
theorem d185_84 : decode prog_8_method_7_code 84 = .ok (.if_icmp .ge 34, 3) := by decide +kernel
theorem d185_87 : decode prog_8_method_7_code 87 = .ok (.aload_n 0, 1) := by decide +kernel
theorem d185_88 : decode prog_8_method_7_code 88 = .ok (.getfield 9, 3) := by decide +kernel
theorem d185_91 : decode prog_8_method_7_code 91 = .ok (.iload 6, 2) := by decide +kernel
theorem d185_93 : decode prog_8_method_7_code 93 = .ok (.invokevirtual 92, 3) := by decide +kernel
theorem d185_96 : decode prog_8_method_7_code 96 = .ok (.iload 4, 2) := by decide +kernel
theorem d185_98 : decode prog_8_method_7_code 98 = .ok (.if_icmp .ne 6, 3) := by decide +kernel
theorem d185_101 : decode prog_8_method_7_code 101 = .ok (.bipush 33, 2) := by decide +kernel
theorem d185_103 : decode prog_8_method_7_code 103 = .ok (.ireturn, 1) := by decide +kernel
theorem d185_104 : decode prog_8_method_7_code 104 = .ok (.aload_n 0, 1) := by decide +kernel
theorem d185_105 : decode prog_8_method_7_code 105 = .ok (.getfield 9, 3) := by decide +kernel
theorem d185_108 : decode prog_8_method_7_code 108 = .ok (.iload 6, 2) := by decide +kernel
theorem d185_110 : decode prog_8_method_7_code 110 = .ok (.invokevirtual 98, 3) := by decide +kernel
theorem d185_113 : decode prog_8_method_7_code 113 = .ok (.istore 6, 2) := by decide +kernel
theorem d185_115 : decode prog_8_method_7_code 115 = .ok (.goto (-34), 3) := by decide +kernel
theorem d185_118 : decode prog_8_method_7_code 118 = .ok (.aload_n 0, 1) := by decide +kernel
theorem d185_119 : decode prog_8_method_7_code 119 = .ok (.getfield 9, 3) := by decide +kernel
theorem d185_122 : decode prog_8_method_7_code 122 = .ok (.iload_n 1, 1) := by decide +kernel
theorem d185_123 : decode prog_8_method_7_code 123 = .ok (.aload_n 0, 1) := by decide +kernel
theorem d185_124 : decode prog_8_method_7_code 124 = .ok (.getfield 25, 3) := by decide +kernel
theorem d185_127 : decode prog_8_method_7_code 127 = .ok (.iload_n 3, 1) := by decide +kernel
theorem d185_128 : decode prog_8_method_7_code 128 = .ok (.invokevirtual 112, 3) := by decide +kernel
theorem d185_131 : decode prog_8_method_7_code 131 = .ok (.aload_n 0, 1) := by decide +kernel
theorem d185_132 : decode prog_8_method_7_code 132 = .ok (.getfield 25, 3) := by decide +kernel
theorem d185_135 : decode prog_8_method_7_code 135 = .ok (.iload 5, 2) := by decide +kernel
theorem d185_137 : decode prog_8_method_7_code 137 = .ok (.invokevirtual 112, 3) := by decide +kernel
theorem d185_140 : decode prog_8_method_7_code 140 = .ok (.iadd, 1) := by decide +kernel
theorem d185_141 : decode prog_8_method_7_code 141 = .ok (.invokevirtual 115, 3) := by decide +kernel
theorem d185_144 : decode prog_8_method_7_code 144 = .ok (.aload_n 0, 1) := by decide +kernel
theorem d185_145 : decode prog_8_method_7_code 145 = .ok (.getfield 9, 3) := by decide +kernel
theorem d185_148 : decode prog_8_method_7_code 148 = .ok (.iload_n 1, 1) := by decide +kernel
theorem d185_149 : decode prog_8_method_7_code 149 = .ok (.iconst 1, 1) := by decide +kernel
theorem d185_150 : decode prog_8_method_7_code 150 = .ok (.iadd, 1) := by decide +kernel
theorem d185_151 : decode prog_8_method_7_code 151 = .ok (.invokevirtual 46, 3) := by decide +kernel
theorem d185_154 : decode prog_8_method_7_code 154 = .ok (.aload_n 0, 1) := by decide +kernel
theorem d185_155 : decode prog_8_method_7_code 155 = .ok (.getfield 25, 3) := by decide +kernel
theorem d185_158 : decode prog_8_method_7_code 158 = .ok (.iload 5, 2) := by decide +kernel
theorem d185_160 : decode prog_8_method_7_code 160 = .ok (.invokevirtual 109, 3) := by decide +kernel
theorem d185_163 : decode prog_8_method_7_code 163 = .ok (.invokestatic 101, 3) := by decide +kernel
theorem d185_166 : decode prog_8_method_7_code 166 = .ok (.ifCond .eq 7, 3) := by decide +kernel
theorem d185_169 : decode prog_8_method_7_code 169 = .ok (.iconst 0, 1) := by decide +kernel
theorem d185_170 : decode prog_8_method_7_code 170 = .ok (.goto 5, 3) := by decide +kernel
theorem d185_173 : decode prog_8_method_7_code 173 = .ok (.bipush 31, 2) := by decide +kernel
theorem d185_175 : decode prog_8_method_7_code 175 = .ok (.ireturn, 1) := by decide +kernel
theorem m185 : pm_m 185 = some (⟨"TypeRules$Statements", "parameterFault", "(I)I"⟩, prog_8_method_7_code, 7, (some FieldType.int), 9, 1, 10) := rfl
/-! STATEMENTS of the class: parameters -/
theorem hp_os (o : Nat) : hp_oi (some o) = nI o := rfl
theorem rl_twr {l : List pg_N} (hw : tz_w l) : ∀ (n s e c : Nat), e - s ≤ n → e ≤ l.length → rl_cl l s e → c ∈ rl_row l s e → (rl_row l s e).takeWhile (fun j => decide (j < c)) = rl_row l s c ∧ rl_cl l s c
  | 0, s, e, c, hn, he, hc, hm => by rw [rl_row0 (by omega)] at hm; exact absurd hm List.not_mem_nil
  | n + 1, s, e, c, hn, he, hc, hm => by
    have cl : rl_cl l s c := fun d h1 h2 => ⟨(hc d h1 (by have := rl_chm _ _ _ _ hm; omega)).1, rl_chb hw _ _ _ c he hc hm d h1 h2⟩
    refine ⟨?_, cl⟩
    by_cases q : s < e
    · obtain ⟨c1, c2, c3⟩ := rl_clz hc q
      rw [rl_rowu he hc q] at hm ⊢
      by_cases w : c = s
      · subst w
        rw [List.takeWhile_cons_of_neg (by simp), rl_row0 (by omega)]
      · have hm : c ∈ rl_row l (s + rl_z l s) e := (List.mem_cons.mp hm).resolve_left w
        have := rl_chm _ _ _ _ hm
        rw [List.takeWhile_cons_of_pos (by simp; omega), (rl_twr hw n (s + rl_z l s) e c (by omega) he c3 hm).1, rl_rowu (by omega) cl (by omega)]
    · rw [rl_row0 (by omega)] at hm; exact absurd hm List.not_mem_nil
theorem lg_tw {l : List pg_N} {NN o i : Nat} (hG : lg_G l NN) (ho : o < l.length) (h : i ∈ rl_c l o) : (rl_c l o).takeWhile (fun j => decide (j < i)) = rl_row l (o + 1) i ∧ rl_cl l (o + 1) i := by
  obtain ⟨z1, z2, z3⟩ := lg_cl hG ho
  exact rl_twr hG.1 _ _ _ _ (Nat.le_refl _) z1 z3 h
theorem cr185l {d : Nat} {l : List pg_N} {NN nx : Nat} {σ0 σ : pm_S} {A : rl_A} {Q : Option Value → pm_S → Prop} {i o : Nat} {a3 a5 x : Int32} (h : cr_I l NN σ0 σ nx A) (hi : i < l.length) (hb : (∃ c ∈ rl_row l (o + 1) i, rl_v l c = x) → Q (some (.int 33)) σ) (hg : (∀ c ∈ rl_row l (o + 1) i, ¬ rl_v l c = x) → pm_WP pm_Y0 (pm_call pm_Y0 (d + 3)) 9 prog_8_method_7_code (some FieldType.int) Q 118 [.ref 9, .int (nI i), .int (nI o), .int a3, .int x, .int a5, .int (nI i)] [] σ) : ∀ (n c : Nat), i - c ≤ n → c ≤ i → rl_cl l c i → (∀ d ∈ rl_row l (o + 1) i, d ∈ rl_row l c i ∨ ¬ rl_v l d = x) → (∀ d ∈ rl_row l c i, d ∈ rl_row l (o + 1) i) → pm_WP pm_Y0 (pm_call pm_Y0 (d + 3)) 9 prog_8_method_7_code (some FieldType.int) Q 81 [.ref 9, .int (nI i), .int (nI o), .int a3, .int x, .int a5, .int (nI c)] [] σ := by
  have hl := h.2.1.1
  have ei := nI_toInt (n := i) (by omega)
  intro n
  induction n with
  | zero =>
    intro c hn hci hc h1 h2
    have : c = i := by omega
    subst this
    rw [rl_row0 (s := c) (e := c) (by omega)] at h1
    refine wq_l 83 d185_81 rfl rfl rfl rfl ?_
    refine wq_l 84 d185_83 rfl rfl rfl rfl ?_
    refine wq_b 118 87 d185_84 rfl (by decide) rfl (fun c84 => ?_) (fun c84 => absurd (by rw [i_le]; omega) c84)
    exact hg (fun d hd => (h1 d hd).resolve_left List.not_mem_nil)
  | succ n ih =>
    intro c hn hci hc h1 h2
    have ec := nI_toInt (n := c) (by omega)
    by_cases q : c < i
    · obtain ⟨c1, c2, c3⟩ := rl_clz hc q
      have er := rl_rowu (by omega) hc q
      rw [er] at h1 h2
      refine wq_l 83 d185_81 rfl rfl rfl rfl ?_
      refine wq_l 84 d185_83 rfl rfl rfl rfl ?_
      refine wq_b 118 87 d185_84 rfl (by decide) rfl (fun c84 => absurd c84 (by rw [i_le, ei, ec]; omega)) (fun c84 => ?_)
      refine wq_l 88 d185_87 rfl rfl rfl rfl ?_
      refine wq_gr (ci := 9) (j := 0) (q := 3) 91 d185_88 rfl rfl rfl rfl ?_
      refine wq_l 93 d185_91 rfl rfl rfl rfl ?_
      refine wq_v 96 [_] d185_93 rfl rfl m66 rfl rfl (Nat.le_of_ble_eq_true rfl) rfl (ck66 (cr_S h) (by omega) ?_)
      refine wq_l 98 d185_96 rfl rfl rfl rfl ?_
      refine wq_b 104 101 d185_98 rfl (by decide) rfl (fun c98 => ?_) (fun c98 => ?_)
      · -- pc 104
        refine wq_l 105 d185_104 rfl rfl rfl rfl ?_
        refine wq_gr (ci := 9) (j := 0) (q := 3) 108 d185_105 rfl rfl rfl rfl ?_
        refine wq_l 110 d185_108 rfl rfl rfl rfl ?_
        refine wq_v 113 [_] d185_110 rfl rfl m63 rfl rfl (Nat.le_of_ble_eq_true rfl) rfl (ck63 (cr_S h) (by omega) ?_)
        refine wq_s 115 d185_113 rfl rfl (Nat.le_of_ble_eq_true rfl) rfl rfl ?_
        refine wq_g 81 d185_115 (by decide) ?_
        exact ih (c + rl_z l c) (by omega) c1 c3 (fun d hd => (h1 d hd).elim (fun w => (List.mem_cons.mp w).elim (fun u => Or.inr (u ▸ c98)) Or.inl) Or.inr) (fun d hd => h2 d (List.mem_cons_of_mem _ hd))
      · -- pc 101
        refine wq_k 103 33 d185_101 (by decide) rfl ?_
        refine wq_ri d185_103 (rfl) ?_
        exact hb ⟨c, h2 c (List.mem_cons_self ..), Classical.not_not.mp c98⟩
    · have : c = i := by omega
      subst this
      rw [rl_row0 (s := c) (e := c) (by omega)] at h1
      refine wq_l 83 d185_81 rfl rfl rfl rfl ?_
      refine wq_l 84 d185_83 rfl rfl rfl rfl ?_
      refine wq_b 118 87 d185_84 rfl (by decide) rfl (fun c84 => ?_) (fun c84 => absurd (by rw [i_le]; omega) c84)
      exact hg (fun d hd => (h1 d hd).resolve_left List.not_mem_nil)
theorem rl_par14_u {l : List pg_N} {A : rl_A} {i o : Nat} (ho : rl_par l i = o) : rl_par14 l A i = if rl_srt A (rl_v l o) 2 ≠ 0 then (0, A) else match rl_pin A.1 (rl_var A (rl_v l o)).2.2.1.toNatClampNeg (rl_v l i) with
    | none => (32, A)
    | some (p, t, c) => if p ≠ 1 then (32, A) else if ((rl_c l o).takeWhile (fun j => decide (j < i))).any (fun j => decide (rl_v l j = rl_v l i)) = true then (33, A) else if rl_fits (A.2.1 (i + 1)) t = false then (31, A) else (0, rl_ce A i (nI ((rl_var A (rl_v l o)).2.2.2.2.2 + c))) := by
  unfold rl_par14
  dsimp only
  rw [ho]
  rfl
theorem cr185 {d : Nat} {l : List pg_N} {NN nx : Nat} {σ0 σ : pm_S} {A : rl_A} {Q : Option Value → pm_S → Prop} {i o : Nat} (hG : lg_G l NN) (h : cr_I l NN σ0 σ nx A) (hp : pv_B A.1) (hB : A.1 ≠ []) (hs : rl_setl A) (hi : i + 1 < l.length) (hn : i < nx) (hpp : (rl_up l i).head? = some o) (hpo : rl_par l i = o) (hol : o < i) (hoc : i ∈ rl_c l o) (hx : 0 ≤ (rl_v l o).toInt ∧ (rl_v l o).toInt < NN) (hx2 : 0 ≤ (rl_v l i).toInt ∧ (rl_v l i).toInt < NN) (hQ : ∀ σ' A', cr_I l NN σ0 σ' nx A' → ((rl_par14 l A i).1 = 0 → A' = (rl_par14 l A i).2) → Q (some (.int (nI (rl_par14 l A i).1))) σ') : pm_call pm_Y0 (d + 4) 185 [.ref 9, .int (nI i)] σ Q := by
  rw [rl_par14_u hpo] at hQ
  have hol2 : o < l.length := by omega
  obtain ⟨t1, t2⟩ := lg_tw hG hol2 hoc
  rw [t1] at hQ
  refine wq_m m185 (Nat.le_of_ble_eq_true rfl) (by decide) rfl ?_
  refine wq_l 1 d185_0 rfl rfl rfl rfl ?_
  refine wq_gr (ci := 9) (j := 0) (q := 3) 4 d185_1 rfl rfl rfl rfl ?_
  refine wq_l 5 d185_4 rfl rfl rfl rfl ?_
  refine wq_v 8 [_] d185_5 rfl rfl m69 rfl rfl (Nat.le_of_ble_eq_true rfl) rfl (ck69 h (by omega) hn ?_)
  rw [hpp, hp_os]
  refine wq_s 9 d185_8 rfl rfl (Nat.le_of_ble_eq_true rfl) rfl rfl ?_
  refine wq_l 10 d185_9 rfl rfl rfl rfl ?_
  refine wq_l 11 d185_10 rfl rfl rfl rfl ?_
  refine wq_gr (ci := 9) (j := 0) (q := 3) 14 d185_11 rfl rfl rfl rfl ?_
  refine wq_l 15 d185_14 rfl rfl rfl rfl ?_
  refine wq_v 18 [_] d185_15 rfl rfl m66 rfl rfl (Nat.le_of_ble_eq_true rfl) rfl (ck66 (i := o) (cr_S h) hol2 ?_)
  refine wq_v 21 [_] d185_18 rfl rfl m183 rfl rfl (Nat.le_of_ble_eq_true rfl) rfl (cr183 h hB hx (fun e18 => ?_) (fun i18 o18 v18 e18 f18 => ?_))
  · -- fork 18
    refine wq_s 22 d185_21 rfl rfl (Nat.le_of_ble_eq_true rfl) rfl rfl ?_
    refine wq_l 23 d185_22 rfl rfl rfl rfl ?_
    refine wq_gr (ci := 9) (j := 2) (q := 6) 26 d185_23 rfl rfl rfl rfl ?_
    refine wq_l 27 d185_26 rfl rfl rfl rfl ?_
    refine wq_v 30 [_] d185_27 rfl rfl m135 rfl rfl (Nat.le_of_ble_eq_true rfl) rfl (cf135n h.2.2.2.2.2.1 ?_)
    refine wq_k 32 10 d185_30 (by decide) rfl ?_
    refine wq_b 37 35 d185_32 rfl (by decide) rfl (fun c32 => absurd c32 (by decide)) (fun c32 => ?_)
    refine wq_k 36 0 d185_35 (by decide) rfl ?_
    refine wq_ri d185_36 (rfl) ?_
    rw [rl_srn e18, if_pos (by decide)] at hQ
    exact hQ _ _ h (fun _ => rfl)
  · -- fork 18
    have hm18 := List.mem_of_find?_eq_some e18
    have hi18 : i18 < 4128 := by have := cv_lt f18; have := (h).2.2.2.2.2.1.1; omega
    refine wq_s 22 d185_21 rfl rfl (Nat.le_of_ble_eq_true rfl) rfl rfl ?_
    refine wq_l 23 d185_22 rfl rfl rfl rfl ?_
    refine wq_gr (ci := 9) (j := 2) (q := 6) 26 d185_23 rfl rfl rfl rfl ?_
    refine wq_l 27 d185_26 rfl rfl rfl rfl ?_
    refine wq_v 30 [_] d185_27 rfl rfl m135 rfl rfl (Nat.le_of_ble_eq_true rfl) rfl (cf135 h.2.2.2.2.2.1 f18 (hs _ hm18) ?_)
    refine wq_k 32 10 d185_30 (by decide) rfl ?_
    refine wq_b 37 35 d185_32 rfl (by decide) rfl (fun c32 => ?_) (fun c32 => ?_)
    · -- pc 37
      refine wq_l 38 d185_37 rfl rfl rfl rfl ?_
      refine wq_gr (ci := 9) (j := 0) (q := 3) 41 d185_38 rfl rfl rfl rfl ?_
      refine wq_l 42 d185_41 rfl rfl rfl rfl ?_
      refine wq_v 45 [_] d185_42 rfl rfl m66 rfl rfl (Nat.le_of_ble_eq_true rfl) rfl (ck66 (cr_S h) (by omega) ?_)
      refine wq_s 47 d185_45 rfl rfl (Nat.le_of_ble_eq_true rfl) rfl rfl ?_
      refine wq_l 48 d185_47 rfl rfl rfl rfl ?_
      refine wq_gr (ci := 9) (j := 2) (q := 6) 51 d185_48 rfl rfl rfl rfl ?_
      refine wq_l 52 d185_51 rfl rfl rfl rfl ?_
      refine wq_gr (ci := 9) (j := 2) (q := 6) 55 d185_52 rfl rfl rfl rfl ?_
      refine wq_l 56 d185_55 rfl rfl rfl rfl ?_
      refine wq_v 59 [_] d185_56 rfl rfl m136 rfl rfl (Nat.le_of_ble_eq_true rfl) rfl (cf136 h.2.2.2.2.2.1 f18 (hs _ hm18) ?_)
      obtain ⟨q9, w9, w9t, w9k⟩ := ((pv_cur hp hB).2.2.2.2.1 _ hm18).2.2.2.1 (rl_s8 (s := 2) (by have := ((pv_cur hp hB).2.2.2.2.1 _ hm18).1; omega) (by decide) c32)
      have hl9 := h.2.2.2.2.1.1
      rw [List.length_tail] at w9
      rw [rl_sr0 e18 (rl_s8 (s := 2) (by have := ((pv_cur hp hB).2.2.2.2.1 _ hm18).1; omega) (by decide) c32), if_neg (by decide), rl_vrs e18, w9t, nI_clamp (by omega)] at hQ
      rw [w9t]
      refine wq_l 61 d185_59 rfl rfl rfl rfl ?_
      refine wq_k 62 1 d185_61 (by decide) rfl ?_
      refine wq_v 65 [_, _, _] d185_62 rfl rfl m138 rfl rfl (Nat.le_of_ble_eq_true rfl) rfl (cr138 h (show q9 < 9 + A.1.length by omega) (by decide) hx2 (fun e62 => ?_) (fun i62 v62 ty62 c62 e62 f62 g62 k62 => ?_))
      · -- fork 62
        refine wq_s 67 d185_65 rfl rfl (Nat.le_of_ble_eq_true rfl) rfl rfl ?_
        refine wq_l 69 d185_67 rfl rfl rfl rfl ?_
        refine wq_k 70 (-1) d185_69 (by decide) rfl ?_
        refine wq_b 76 73 d185_70 rfl (by decide) rfl (fun c70 => absurd c70 (fun z => z rfl)) (fun c70 => ?_)
        refine wq_k 75 32 d185_73 (by decide) rfl ?_
        refine wq_ri d185_75 (rfl) ?_
        cases ep : rl_pin A.1 q9 (rl_v l i) with
        | none => rw [ep] at hQ; exact hQ _ _ h (fun z => absurd (show (32 : Nat) = 0 from z) (by decide))
        | some w =>
          obtain ⟨p, t, c⟩ := w
          rw [ep] at hQ
          dsimp only at hQ
          rw [if_pos (e62 p t c ep)] at hQ
          exact hQ _ _ h (fun z => absurd (show (32 : Nat) = 0 from z) (by decide))
      · -- fork 62
        have hi62 : i62 < 4128 := by have := cv_lt f62; have := h.2.2.2.2.2.1.1; omega
        have st62 : v62.2.1 ≠ 3 := by
          by_cases w : q9 < 9
          · rw [k62.1 w]; decide
          · obtain ⟨y, y1, y2⟩ := k62.2 (by omega)
            exact pv_st hp y1 (by omega) _ (rl_find_m y2)
        rw [e62] at hQ
        dsimp only at hQ
        rw [if_neg (fun z => z rfl)] at hQ
        have hbad : (∃ c ∈ rl_row l (o + 1) i, rl_v l c = rl_v l i) → Q (some (.int 33)) σ := fun ⟨c, m1, m2⟩ => by
          rw [if_pos (List.any_eq_true.mpr ⟨c, m1, decide_eq_true m2⟩)] at hQ
          exact hQ _ _ h (fun z => absurd (show (33 : Nat) = 0 from z) (by decide))
        have hany : (∀ c ∈ rl_row l (o + 1) i, ¬ rl_v l c = rl_v l i) → ¬ (rl_row l (o + 1) i).any (fun j => decide (rl_v l j = rl_v l i)) = true := fun z y => by
          obtain ⟨c, m1, m2⟩ := List.any_eq_true.mp y
          exact z c m1 (of_decide_eq_true m2)
        refine wq_s 67 d185_65 rfl rfl (Nat.le_of_ble_eq_true rfl) rfl rfl ?_
        refine wq_l 69 d185_67 rfl rfl rfl rfl ?_
        refine wq_k 70 (-1) d185_69 (by decide) rfl ?_
        refine wq_b 76 73 d185_70 rfl (by decide) rfl (fun c70 => ?_) (fun c70 => absurd (hp_ne (by omega)) c70)
        refine wq_l 77 d185_76 rfl rfl rfl rfl ?_
        refine wq_k 78 1 d185_77 (by decide) rfl ?_
        refine wq_a 79 d185_78 rfl rfl ?_
        rw [nI_1]
        refine wq_s 81 d185_79 rfl rfl (Nat.le_of_ble_eq_true rfl) rfl rfl ?_
        have hgo : (∀ c ∈ rl_row l (o + 1) i, ¬ rl_v l c = rl_v l i) → pm_WP pm_Y0 (pm_call pm_Y0 (d + 3)) 9 prog_8_method_7_code (some FieldType.int) Q 118 [.ref 9, .int (nI i), .int (nI o), .int (nI i18), .int (rl_v l i), .int (nI i62), .int (nI i)] [] σ := by
          intro hno
          rw [if_neg (hany hno)] at hQ
          refine wq_l 119 d185_118 rfl rfl rfl rfl ?_
          refine wq_gr (ci := 9) (j := 0) (q := 3) 122 d185_119 rfl rfl rfl rfl ?_
          refine wq_l 123 d185_122 rfl rfl rfl rfl ?_
          refine wq_l 124 d185_123 rfl rfl rfl rfl ?_
          refine wq_gr (ci := 9) (j := 2) (q := 6) 127 d185_124 rfl rfl rfl rfl ?_
          refine wq_l 128 d185_127 rfl rfl rfl rfl ?_
          refine wq_v 131 [_] d185_128 rfl rfl m137 rfl rfl (Nat.le_of_ble_eq_true rfl) rfl (cf137 h.2.2.2.2.2.1 f18 (hs _ hm18) ?_)
          refine wq_l 132 d185_131 rfl rfl rfl rfl ?_
          refine wq_gr (ci := 9) (j := 2) (q := 6) 135 d185_132 rfl rfl rfl rfl ?_
          refine wq_l 137 d185_135 rfl rfl rfl rfl ?_
          refine wq_v 140 [_] d185_137 rfl rfl m137 rfl rfl (Nat.le_of_ble_eq_true rfl) rfl (cf137 h.2.2.2.2.2.1 f62 st62 ?_)
          refine wq_a 141 d185_140 rfl rfl ?_
          rw [nI_add]
          refine wq_v 144 [_, _] d185_141 rfl rfl m67 rfl rfl (Nat.le_of_ble_eq_true rfl) rfl (ck67 h (by omega) (fun σ141 h141 => ?_))
          refine wq_l 145 d185_144 rfl rfl rfl rfl ?_
          refine wq_gr (ci := 9) (j := 0) (q := 3) 148 d185_145 rfl rfl rfl rfl ?_
          refine wq_l 149 d185_148 rfl rfl rfl rfl ?_
          refine wq_k 150 1 d185_149 (by decide) rfl ?_
          refine wq_a 151 d185_150 rfl rfl ?_
          rw [nI_1]
          refine wq_v 154 [_] d185_151 rfl rfl m71 rfl rfl (Nat.le_of_ble_eq_true rfl) rfl (ck71 h141 (by omega) ?_)
          refine wq_l 155 d185_154 rfl rfl rfl rfl ?_
          refine wq_gr (ci := 9) (j := 2) (q := 6) 158 d185_155 rfl rfl rfl rfl ?_
          refine wq_l 160 d185_158 rfl rfl rfl rfl ?_
          refine wq_v 163 [_] d185_160 rfl rfl m136 rfl rfl (Nat.le_of_ble_eq_true rfl) rfl (cf136 (h141).2.2.2.2.2.1 f62 st62 ?_)
          rw [g62.2.1]
          refine wq_vs 166 [_, _] d185_163 rfl rfl m173 rfl (Nat.le_of_ble_eq_true rfl) rfl (sp173 ?_)
          refine wq_b 173 169 d185_166 rfl (by decide) rfl (fun c166 => ?_) (fun c166 => ?_)
          · -- pc 173
            have f166 := b2z c166
            refine wq_k 175 31 d185_173 (by decide) rfl ?_
            refine wq_ri d185_175 (rfl) ?_
            have f166 : rl_fits (A.2.1 (i + 1)) ty62 = false := f166
            rw [if_pos f166] at hQ
            exact hQ _ _ h141 (fun z => absurd (show (31 : Nat) = 0 from z) (by decide))
          · -- pc 169
            have f166 := b2n c166
            refine wq_k 170 0 d185_169 (by decide) rfl ?_
            refine wq_g 175 d185_170 (by decide) ?_
            refine wq_ri d185_175 (rfl) ?_
            have f166 : rl_fits (A.2.1 (i + 1)) ty62 = true := f166
            rw [if_neg (fun z => absurd (f166.symm.trans z) (by decide))] at hQ
            refine hQ _ _ h141 (fun _ => ?_)
            rw [g62.2.2]
        exact cr185l h (by omega) hbad hgo (i - (o + 1)) (o + 1) (by omega) (by omega) t2 (fun d hd => Or.inl hd) (fun d hd => hd)
    · -- pc 35
      refine wq_k 36 0 d185_35 (by decide) rfl ?_
      refine wq_ri d185_36 (rfl) ?_
      rw [rl_sr1 e18 (fun z => c32 (by rw [z]; rfl)), if_pos (by decide)] at hQ
      exact hQ _ _ h (fun _ => rfl)
