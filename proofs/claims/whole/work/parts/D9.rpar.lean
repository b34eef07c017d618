theorem d293_0 : decode prog_14_method_105_code 0 = .ok (.aload_n 0, 1) := by decide +kernel
theorem d293_1 : decode prog_14_method_105_code 1 = .ok (.getfield 47, 3) := by decide +kernel
theorem d293_4 : decode prog_14_method_105_code 4 = .ok (.iload_n 1, 1) := by decide +kernel
theorem d293_5 : decode prog_14_method_105_code 5 = .ok (.iaload, 1) := by decide +kernel
theorem d293_6 : decode prog_14_method_105_code 6 = .ok (.istore_n 2, 1) := by decide +kernel
theorem d293_7 : decode prog_14_method_105_code 7 = .ok (.aload_n 0, 1) := by decide +kernel
theorem d293_8 : decode prog_14_method_105_code 8 = .ok (.aload_n 0, 1) := by decide +kernel
theorem d293_9 : decode prog_14_method_105_code 9 = .ok (.getfield 35, 3) := by decide +kernel
theorem d293_12 : decode prog_14_method_105_code 12 = .ok (.iload_n 2, 1) := by decide +kernel
theorem d293_13 : decode prog_14_method_105_code 13 = .ok (.iaload, 1) := by decide +kernel
theorem d293_14 : decode prog_14_method_105_code 14 = .ok (.iconst 2, 1) := by decide +kernel
theorem d293_15 : decode prog_14_method_105_code 15 = .ok (.invokevirtual 593, 3) := by decide +kernel
theorem d293_18 : decode prog_14_method_105_code 18 = .ok (.ifCond .le 5, 3) := by decide +kernel
theorem d293_21 : decode prog_14_method_105_code 21 = .ok (.iconst 0, 1) := by decide +kernel
theorem d293_22 : decode prog_14_method_105_code 22 = .ok (.ireturn, 1) := by decide +kernel
theorem d293_23 : decode prog_14_method_105_code 23 = .ok (.aload_n 0, 1) := by decide +kernel
theorem d293_24 : decode prog_14_method_105_code 24 = .ok (.aload_n 0, 1) := by decide +kernel
theorem d293_25 : decode prog_14_method_105_code 25 = .ok (.getfield 35, 3) := by decide +kernel
theorem d293_28 : decode prog_14_method_105_code 28 = .ok (.iload_n 2, 1) := by decide +kernel
theorem d293_29 : decode prog_14_method_105_code 29 = .ok (.iaload, 1) := by decide +kernel
theorem d293_30 : decode prog_14_method_105_code 30 = .ok (.invokevirtual 590, 3) := by decide +kernel
theorem d293_33 : decode prog_14_method_105_code 33 = .ok (.istore_n 3, 1) := by decide +kernel
theorem d293_34 : decode prog_14_method_105_code 34 = .ok (.aload_n 0, 1) := by decide +kernel
theorem d293_35 : decode prog_14_method_105_code 35 = .ok (.iload_n 3, 1) := by decide +kernel
theorem d293_36 : decode prog_14_method_105_code 36 = .ok (.aload_n 0, 1) := by decide +kernel
theorem d293_37 : decode prog_14_method_105_code 37 = .ok (.getfield 35, 3) := by decide +kernel
theorem d293_40 : decode prog_14_method_105_code 40 = .ok (.iload_n 1, 1) := by decide +kernel
theorem d293_41 : decode prog_14_method_105_code 41 = .ok (.iaload, 1) := by decide +kernel
theorem d293_42 : decode prog_14_method_105_code 42 = .ok (.invokevirtual 599, 3) := by decide +kernel
theorem d293_45 : decode prog_14_method_105_code 45 = .ok (.istore 4, 2) := by decide +kernel
theorem d293_47 : decode prog_14_method_105_code 47 = .ok (.iload 4, 2) := by decide +kernel
theorem d293_49 : decode prog_14_method_105_code 49 = .ok (.ifCond .lt 15, 3) := by decide +kernel
theorem d293_52 : decode prog_14_method_105_code 52 = .ok (.iload 4, 2) := by decide +kernel
theorem d293_54 : decode prog_14_method_105_code 54 = .ok (.bipush 100, 2) := by decide +kernel
theorem d293_56 : decode prog_14_method_105_code 56 = .ok (.idiv, 1) := by decide +kernel
theorem d293_57 : decode prog_14_method_105_code 57 = .ok (.bipush 10, 2) := by decide +kernel
theorem d293_59 : decode prog_14_method_105_code 59 = .ok (.irem, 1) := by decide +kernel
theorem d293_60 : decode prog_14_method_105_code 60 = .ok (.iconst 1, 1) := by decide +kernel
theorem d293_61 : decode prog_14_method_105_code 61 = .ok (.if_icmp .eq 6, 3) := by decide +kernel
theorem d293_64 : decode prog_14_method_105_code 64 = .ok (.bipush 32, 2) := by decide +kernel
theorem d293_66 : decode prog_14_method_105_code 66 = .ok (.ireturn, 1) := by decide +kernel
theorem d293_67 : decode prog_14_method_105_code 67 = .ok (.aload_n 0, 1) := by decide +kernel
theorem d293_68 : decode prog_14_method_105_code 68 = .ok (.getfield 38, 3) := by decide +kernel
theorem d293_71 : decode prog_14_method_105_code 71 = .ok (.iload_n 2, 1) := by decide +kernel
theorem d293_72 : decode prog_14_method_105_code 72 = .ok (.iaload, 1) := by decide +kernel
theorem d293_73 : decode prog_14_method_105_code 73 = .ok (.istore 5, 2) := by decide +kernel
theorem d293_75 : decode prog_14_method_105_code 75 = .ok (.iload 5, 2) := by decide +kernel
theorem d293_77 : decode prog_14_method_105_code 77 = .ok (.iload_n 1, 1) := by decide +kernel
theorem d293_78 : decode prog_14_method_105_code 78 = .ok (.if_icmp .eq 34, 3) := by decide +kernel
theorem d293_81 : decode prog_14_method_105_code 81 = .ok (.aload_n 0, 1) := by decide +kernel
theorem d293_82 : decode prog_14_method_105_code 82 = .ok (.getfield 35, 3) := by decide +kernel
theorem d293_85 : decode prog_14_method_105_code 85 = .ok (.iload 5, 2) := by decide +kernel
theorem d293_87 : decode prog_14_method_105_code 87 = .ok (.iaload, 1) := by decide +kernel
theorem d293_88 : decode prog_14_method_105_code 88 = .ok (.aload_n 0, 1) := by decide +kernel
theorem d293_89 : decode prog_14_method_105_code 89 = .ok (.getfield 35, 3) := by decide +kernel
theorem d293_92 : decode prog_14_method_105_code 92 = .ok (.iload_n 1, 1) := by decide +kernel
theorem d293_93 : decode prog_14_method_105_code 93 = .ok (.iaload, 1) := by decide +kernel
theorem d293_94 : decode prog_14_method_105_code 94 = .ok (.if_icmp .ne 6, 3) := by decide +kernel
theorem d293_97 : decode prog_14_method_105_code 97 = .ok (.bipush 33, 2) := by decide +kernel
theorem d293_99 : decode prog_14_method_105_code 99 = .ok (.ireturn, 1) := by decide +kernel
theorem d293_100 : decode prog_14_method_105_code 100 = .ok (.aload_n 0, 1) := by decide +kernel
theorem d293_101 : decode prog_14_method_105_code 101 = .ok (.getfield 44, 3) := by decide +kernel
theorem d293_104 : decode prog_14_method_105_code 104 = .ok (.iload 5, 2) := by decide +kernel
theorem d293_106 : decode prog_14_method_105_code 106 = .ok (.iaload, 1) := by decide +kernel
theorem d293_107 : decode prog_14_method_105_code 107 = .ok (.istore 5, 2) := by decide +kernel
theorem d293_109 : decode prog_14_method_105_code 109 = .ok (.goto (-34), 3) := by decide +kernel
theorem d293_112 : decode prog_14_method_105_code 112 = .ok (.aload_n 0, 1) := by decide +kernel
theorem d293_113 : decode prog_14_method_105_code 113 = .ok (.getfield 53, 3) := by decide +kernel
theorem d293_116 : decode prog_14_method_105_code 116 = .ok (.iload_n 1, 1) := by decide +kernel
theorem d293_117 : decode prog_14_method_105_code 117 = .ok (.aload_n 0, 1) := by decide +kernel
theorem d293_118 : decode prog_14_method_105_code 118 = .ok (.getfield 104, 3) := by decide +kernel
theorem d293_121 : decode prog_14_method_105_code 121 = .ok (.iload_n 3, 1) := by decide +kernel
theorem d293_122 : decode prog_14_method_105_code 122 = .ok (.iaload, 1) := by decide +kernel
theorem d293_123 : decode prog_14_method_105_code 123 = .ok (.iload 4, 2) := by decide +kernel
theorem d293_125 : decode prog_14_method_105_code 125 = .ok (.aload_n 0, 1) := by decide +kernel
theorem d293_126 : decode prog_14_method_105_code 126 = .ok (.getfield 95, 3) := by decide +kernel
theorem d293_129 : decode prog_14_method_105_code 129 = .ok (.iload_n 3, 1) := by decide +kernel
theorem d293_130 : decode prog_14_method_105_code 130 = .ok (.iaload, 1) := by decide +kernel
theorem d293_131 : decode prog_14_method_105_code 131 = .ok (.invokestatic 602, 3) := by decide +kernel
theorem d293_134 : decode prog_14_method_105_code 134 = .ok (.iadd, 1) := by decide +kernel
theorem d293_135 : decode prog_14_method_105_code 135 = .ok (.iastore, 1) := by decide +kernel
theorem d293_136 : decode prog_14_method_105_code 136 = .ok (.aload_n 0, 1) := by decide +kernel
theorem d293_137 : decode prog_14_method_105_code 137 = .ok (.getfield 50, 3) := by decide +kernel
theorem d293_140 : decode prog_14_method_105_code 140 = .ok (.aload_n 0, 1) := by decide +kernel
theorem d293_141 : decode prog_14_method_105_code 141 = .ok (.getfield 38, 3) := by decide +kernel
theorem d293_144 : decode prog_14_method_105_code 144 = .ok (.iload_n 1, 1) := by decide +kernel
theorem d293_145 : decode prog_14_method_105_code 145 = .ok (.iaload, 1) := by decide +kernel
theorem d293_146 : decode prog_14_method_105_code 146 = .ok (.iaload, 1) := by decide +kernel
theorem d293_147 : decode prog_14_method_105_code 147 = .ok (.iload 4, 2) := by decide +kernel
theorem d293_149 : decode prog_14_method_105_code 149 = .ok (.bipush 10, 2) := by decide +kernel
theorem d293_151 : decode prog_14_method_105_code 151 = .ok (.idiv, 1) := by decide +kernel
theorem d293_152 : decode prog_14_method_105_code 152 = .ok (.bipush 10, 2) := by decide +kernel
theorem d293_154 : decode prog_14_method_105_code 154 = .ok (.irem, 1) := by decide +kernel
theorem d293_155 : decode prog_14_method_105_code 155 = .ok (.invokestatic 617, 3) := by decide +kernel
theorem d293_158 : decode prog_14_method_105_code 158 = .ok (.ifCond .eq 7, 3) := by decide +kernel
theorem d293_161 : decode prog_14_method_105_code 161 = .ok (.iconst 0, 1) := by decide +kernel
theorem d293_162 : decode prog_14_method_105_code 162 = .ok (.goto 5, 3) := by decide +kernel
theorem d293_165 : decode prog_14_method_105_code 165 = .ok (.bipush 31, 2) := by decide +kernel
theorem d293_167 : decode prog_14_method_105_code 167 = .ok (.ireturn, 1) := by decide +kernel
theorem m293 : pm_m 293 = some (⟨"TypeRulesModel", "parameterRule", "(I)I"⟩, prog_14_method_105_code, 6, (some FieldType.int), 10, 1, 11) := rfl
/-! PARAMETERS of the reference -/
theorem re293l {d : Nat} {l : List pg_N} {a : Nat → Nat} {R : Int32 → Int32 → Prop} {σ0 σ : pm_S} {fl : Bool} {u : Nat} {A : rl_A} {Q : Option Value → pm_S → Prop} {NN i o : Nat} {v3 v4 : Int32} (hG : lg_G l NN) (h : rr_I l a R σ0 σ fl u A) (ho : o < l.length) (hi : i ∈ rl_c l o) (hil : i < l.length) (hch : ∀ c ∈ rl_c l o, rp_nk (rl_k l c) = true) : ∀ (n c : Nat), i - c ≤ n → c ≤ i → rl_cl l c i → c ∈ rl_c l o → (∀ x ∈ rl_row l c i, x ∈ rl_c l o) → ((rl_row l c i).any (fun j => decide (rl_v l j = rl_v l i)) = true → Q (some (.int 33)) σ) → ((rl_row l c i).any (fun j => decide (rl_v l j = rl_v l i)) = false → pm_WP pm_Y0 (pm_call pm_Y0 (d + 3)) 10 prog_14_method_105_code (some FieldType.int) Q 112 [.ref 10, .int (nI (a i)), .int (nI (a o)), .int v3, .int v4, .int (nI (a i))] [] σ) → pm_WP pm_Y0 (pm_call pm_Y0 (d + 3)) 10 prog_14_method_105_code (some FieldType.int) Q 75 [.ref 10, .int (nI (a i)), .int (nI (a o)), .int v3, .int v4, .int (nI (a c))] [] σ := by
  have bi := rt_b (rr_T h) hil
  have Ri := rt_R (rr_T h) hil (hch i hi)
  have im := rl_cm hi
  have inj := (rr_T h).2.1
  have ai := ((rr_T h).2.2.1 i hil).1
  intro n
  induction n with
  | zero =>
    intro c hn hc hcl hco hm hb hg
    have : c = i := by omega
    subst this
    rw [rl_row0 (by omega)] at hg
    refine wq_l 77 d293_75 rfl rfl rfl rfl ?_
    refine wq_l 78 d293_77 rfl rfl rfl rfl ?_
    refine wq_b 112 81 d293_78 rfl (by decide) rfl (fun c78 => ?_) (fun c78 => absurd (rfl) c78)
    exact hg rfl
  | succ n ih =>
    intro c hn hc hcl hco hm hb hg
    by_cases q : c = i
    · subst q
      exact ih c (by omega) hc hcl hco hm hb hg
    · have q2 : c < i := by omega
      have er := rl_rowu (by omega) hcl q2
      obtain ⟨c1, c2, c3⟩ := rl_clz hcl q2
      have cl : c < l.length := by omega
      have bc := rt_b (rr_T h) cl
      have ac := ((rr_T h).2.2.1 c cl).1
      have Rc := rt_R (rr_T h) cl (hch c hco)
      have vr := (rr_R h).1 _ _ _ _ Rc Ri
      have nc := (rt_n (rr_T h) hG ho hco).trans (if_pos (by omega))
      rw [er, List.any_cons] at hb hg
      have nx : c + rl_z l c ∈ rl_c l o := by
        by_cases w : c + rl_z l c < i
        · exact hm _ (by rw [er, rl_rowu (by omega) c3 w]; exact List.mem_cons_of_mem _ List.mem_cons_self)
        · rw [show c + rl_z l c = i by omega]; exact hi
      refine wq_l 77 d293_75 rfl rfl rfl rfl ?_
      refine wq_l 78 d293_77 rfl rfl rfl rfl ?_
      refine wq_b 112 81 d293_78 rfl (by decide) rfl (fun c78 => absurd c78 (fun z => q (inj c i cl hil (hp_inj (by omega) (by omega) z)))) (fun c78 => ?_)
      refine wq_l 82 d293_81 rfl rfl rfl rfl ?_
      refine wq_gr (ci := 10) (j := 18) (q := 51) 85 d293_82 rfl rfl rfl rfl ?_
      refine wq_l 87 d293_85 rfl rfl rfl rfl ?_
      refine wq_al 88 d293_87 rfl rfl rfl (bc) ?_
      rw [rt_m (rr_T h) cl]
      refine wq_l 89 d293_88 rfl rfl rfl rfl ?_
      refine wq_gr (ci := 10) (j := 18) (q := 51) 92 d293_89 rfl rfl rfl rfl ?_
      refine wq_l 93 d293_92 rfl rfl rfl rfl ?_
      refine wq_al 94 d293_93 rfl rfl rfl (bi) ?_
      rw [rt_m (rr_T h) hil]
      refine wq_b 100 97 d293_94 rfl (by decide) rfl (fun c94 => ?_) (fun c94 => ?_)
      · -- pc 100
        refine wq_l 101 d293_100 rfl rfl rfl rfl ?_
        refine wq_gr (ci := 10) (j := 21) (q := 54) 104 d293_101 rfl rfl rfl rfl ?_
        refine wq_l 106 d293_104 rfl rfl rfl rfl ?_
        refine wq_al 107 d293_106 rfl rfl rfl (bc) ?_
        rw [nc]
        refine wq_s 109 d293_107 rfl rfl (Nat.le_of_ble_eq_true rfl) rfl rfl ?_
        refine wq_g 75 d293_109 (by decide) ?_
        rw [show decide (rl_v l c = rl_v l i) = false from decide_eq_false (fun z => c94 (vr.mp z)), Bool.false_or] at hb hg
        exact ih (c + rl_z l c) (by omega) (by omega) c3 nx (fun x hx => hm x (by rw [er]; exact List.mem_cons_of_mem _ hx)) hb hg
      · -- pc 97
        refine wq_k 99 33 d293_97 (by decide) rfl ?_
        refine wq_ri d293_99 (rfl) ?_
        exact hb (by rw [decide_eq_true (vr.mpr (Classical.not_not.mp c94))]; rfl)
theorem re293 {d : Nat} {l : List pg_N} {a : Nat → Nat} {R : Int32 → Int32 → Prop} {σ0 σ : pm_S} {fl : Bool} {u : Nat} {A : rl_A} {Q : Option Value → pm_S → Prop} {NN i o : Nat} (hG : lg_G l NN) (h : rr_I l a R σ0 σ fl u A) (hp : pv_B A.1) (hB : A.1 ≠ []) (hs : rl_setl A) (hi : i + 1 < l.length) (hz : i + 1 < i + rl_z l i) (ho : o < l.length) (hoc : i ∈ rl_c l o) (hpo : rl_par l i = o) (hko : rp_nk (rl_k l o) = true) (hch : ∀ c ∈ rl_c l o, rp_nk (rl_k l c) = true) (hQ : rr_Q l a R σ0 fl u (rl_par14 l A i) Q) : pm_call pm_Y0 (d + 4) 293 [.ref 10, .int (nI (a i))] σ Q := by
  have i0 : i < l.length := by omega
  have bi := rt_b (rr_T h) i0
  have bo := rt_b (rr_T h) ho
  have im := rl_cm hoc
  have eq := (rt_q (rr_T h) hG i0).trans (if_neg (by omega))
  rw [hpo] at eq
  rw [rl_par14_u hpo] at hQ
  have hR := rt_R (rr_T h) ho hko
  have em := rt_m (rr_T h) ho
  have hRi := rt_R (rr_T h) i0 (hch i hoc)
  have emi := rt_m (rr_T h) i0
  have hB9 := h.2.2.2.2.1.1
  have sl := rl_srtl (A := A) (x := rl_v l o) (s := 2)
  have es := nI_toInt (n := rl_srt A (rl_v l o) 2) (by omega)
  have ef := (rt_f (rr_T h) hG i0).trans (if_pos hz)
  have efo := (rt_f (rr_T h) hG ho).trans (if_pos (by omega))
  obtain ⟨w1, w2⟩ := lg_tw hG ho hoc
  by_cases e0 : rl_srt A (rl_v l o) 2 = 0
  · rw [if_neg (fun z => z e0)] at hQ
    refine wq_m m293 (Nat.le_of_ble_eq_true rfl) (by decide) rfl ?_
    refine wq_l 1 d293_0 rfl rfl rfl rfl ?_
    refine wq_gr (ci := 10) (j := 22) (q := 55) 4 d293_1 rfl rfl rfl rfl ?_
    refine wq_l 5 d293_4 rfl rfl rfl rfl ?_
    refine wq_al 6 d293_5 rfl rfl rfl (bi) ?_
    rw [eq]
    refine wq_s 7 d293_6 rfl rfl (Nat.le_of_ble_eq_true rfl) rfl rfl ?_
    refine wq_l 8 d293_7 rfl rfl rfl rfl ?_
    refine wq_l 9 d293_8 rfl rfl rfl rfl ?_
    refine wq_gr (ci := 10) (j := 18) (q := 51) 12 d293_9 rfl rfl rfl rfl ?_
    refine wq_l 13 d293_12 rfl rfl rfl rfl ?_
    refine wq_al 14 d293_13 rfl rfl rfl (bo) ?_
    rw [em]
    refine wq_k 15 2 d293_14 (by decide) rfl ?_
    refine wq_v 18 [_, _] d293_15 rfl rfl m292 rfl rfl (Nat.le_of_ble_eq_true rfl) rfl (re292 h hp hB hs (s := 2) (by decide) hR ?_)
    refine wq_b 23 21 d293_18 rfl (by decide) rfl (fun c18 => ?_) (fun c18 => absurd (by rw [e0]; decide) c18)
    refine wq_l 24 d293_23 rfl rfl rfl rfl ?_
    refine wq_l 25 d293_24 rfl rfl rfl rfl ?_
    refine wq_gr (ci := 10) (j := 18) (q := 51) 28 d293_25 rfl rfl rfl rfl ?_
    refine wq_l 29 d293_28 rfl rfl rfl rfl ?_
    refine wq_al 30 d293_29 rfl rfl rfl (bo) ?_
    rw [em]
    refine wq_v 33 [_] d293_30 rfl rfl m283 rfl rfl (Nat.le_of_ble_eq_true rfl) rfl (re283 h hp hB hR (fun e2 => ?_) (fun i2 v2 e2 f2 g2 => ?_))
    · -- fork 30
      rw [rl_srn e2] at e0
      exact absurd e0 (by decide)
      -- none
    · -- fork 30
      have m2 := rl_find_m e2
      have s2 := ((h.2.2.2.2.2.1.2.2) i2 v2 f2).2.1 (hs v2 m2)
      have ei := nI_toInt (n := i2) (by omega)
      have ec := nI_clamp (n := i2) (by omega)
      have v1 : v2.2.1 = 2 := Classical.byContradiction (fun z => by rw [rl_sr1 e2 z] at e0; exact absurd e0 (by decide))
      obtain ⟨q, q1, q2, q3⟩ := ((pv_cur hp hB).2.2.2.2.1 v2 m2).2.2.2.1 v1
      have q9 := q1
      rw [List.length_tail] at q9
      have qc : (nI q).toNatClampNeg = q := nI_clamp (by omega)
      have tv : rv_t v2 = rv_q q := by unfold rv_t; rw [if_pos v1, q2, qc]
      rw [rl_vrs e2, q2, qc] at hQ
      refine wq_s 34 d293_33 rfl rfl (Nat.le_of_ble_eq_true rfl) rfl rfl ?_
      refine wq_l 35 d293_34 rfl rfl rfl rfl ?_
      refine wq_l 36 d293_35 rfl rfl rfl rfl ?_
      refine wq_l 37 d293_36 rfl rfl rfl rfl ?_
      refine wq_gr (ci := 10) (j := 18) (q := 51) 40 d293_37 rfl rfl rfl rfl ?_
      refine wq_l 41 d293_40 rfl rfl rfl rfl ?_
      refine wq_al 42 d293_41 rfl rfl rfl (bi) ?_
      rw [emi]
      refine wq_v 45 [_, _] d293_42 rfl rfl m294 rfl rfl (Nat.le_of_ble_eq_true rfl) rfl (re294 h hp f2 g2 v1 q2 q1 hRi ?_)
      cases hpn : rl_pin A.1 q (rl_v l i) with
      | none =>
        rw [hpn] at hQ
        have hQ : rr_Q l a R σ0 fl u (32, A) Q := hQ
        show pm_WP _ _ _ _ _ _ _ _ [.int (-1)] _
        refine wq_s 47 d293_45 rfl rfl (Nat.le_of_ble_eq_true rfl) rfl rfl ?_
        refine wq_l 49 d293_47 rfl rfl rfl rfl ?_
        refine wq_b 64 52 d293_49 rfl (by decide) rfl (fun c49 => ?_) (fun c49 => absurd (by decide) c49)
        refine wq_k 66 32 d293_64 (by decide) rfl ?_
        refine wq_ri d293_66 (rfl) ?_
        exact rr_q1 (k := 32) hQ (rr_Fi h) rfl (by decide)
      | some w =>
        obtain ⟨p, t, c⟩ := w
        rw [hpn] at hQ
        have hQ : rr_Q l a R σ0 fl u (if p ≠ 1 then (32, A) else if ((rl_c l o).takeWhile (fun j => decide (j < i))).any (fun j => decide (rl_v l j = rl_v l i)) = true then (33, A) else if rl_fits (A.2.1 (i + 1)) t = false then (31, A) else (0, rl_ce A i (nI (v2.2.2.2.2.2 + c)))) Q := hQ
        rw [w1] at hQ
        by_cases p0 : p = 0
        · rw [if_pos (by omega)] at hQ
          rw [show rv_P q (some (p, t, c)) = -1 from if_pos p0]
          refine wq_s 47 d293_45 rfl rfl (Nat.le_of_ble_eq_true rfl) rfl rfl ?_
          refine wq_l 49 d293_47 rfl rfl rfl rfl ?_
          refine wq_b 64 52 d293_49 rfl (by decide) rfl (fun c49 => ?_) (fun c49 => absurd (by decide) c49)
          refine wq_k 66 32 d293_64 (by decide) rfl ?_
          refine wq_ri d293_66 (rfl) ?_
          exact rr_q1 (k := 32) hQ (rr_Fi h) rfl (by decide)
        · obtain ⟨p2, tt, cc, cq⟩ := rv_pin hp q1 hpn p0
          obtain ⟨N, N1, N2, N3, N4, N5⟩ := rv_Pd (q := q) p0 p2 tt cc cq
          rw [N1]
          by_cases p1 : p = 1
          · rw [if_neg (show ¬ p ≠ 1 by omega)] at hQ
            refine wq_s 47 d293_45 rfl rfl (Nat.le_of_ble_eq_true rfl) rfl rfl ?_
            refine wq_l 49 d293_47 rfl rfl rfl rfl ?_
            refine wq_b 64 52 d293_49 rfl (by decide) rfl (fun c49 => absurd c49 (by rw [i_lt, nI_toInt (by omega)]; show ¬ (N : Int) < 0; omega)) (fun c49 => ?_)
            refine wq_l 54 d293_52 rfl rfl rfl rfl ?_
            refine wq_k 56 100 d293_54 (by decide) rfl ?_
            refine wq_dv 57 d293_56 rfl rfl (by decide) ?_
            refine wq_k 59 10 d293_57 (by decide) rfl ?_
            refine wq_dv 60 d293_59 rfl rfl (by decide) ?_
            rw [show nI N / 100 - nI N / 100 / 10 * 10 = nI (N / 100 % 10) by rw [show nI N / 100 = nI (N / 100) from nI_dv (b := 100) (by omega) (by decide)]; exact nI_rm (b := 10) (by omega) (by decide), N3]
            refine wq_k 61 1 d293_60 (by decide) rfl ?_
            refine wq_b 67 64 d293_61 rfl (by decide) rfl (fun c61 => ?_) (fun c61 => absurd (by rw [if_pos p1]; decide) c61)
            refine wq_l 68 d293_67 rfl rfl rfl rfl ?_
            refine wq_gr (ci := 10) (j := 19) (q := 52) 71 d293_68 rfl rfl rfl rfl ?_
            refine wq_l 72 d293_71 rfl rfl rfl rfl ?_
            refine wq_al 73 d293_72 rfl rfl rfl (bo) ?_
            rw [efo]
            refine wq_s 75 d293_73 rfl rfl (Nat.le_of_ble_eq_true rfl) rfl rfl ?_
            refine re293l hG h ho hoc i0 hch i (o + 1) (by omega) (by omega) w2 (by rw [rl_crow, rl_rowu (lg_cl hG ho).1 (lg_cl hG ho).2.2 (by omega)]; exact List.mem_cons_self) (fun x hx => by rw [← w1] at hx; exact (List.takeWhile_sublist _).subset hx) (fun ha => ?_) (fun ha => ?_)
            · rw [ha, if_pos rfl] at hQ
              exact rr_q1 (k := 33) hQ (rr_Fi h) rfl (by decide)
            · rw [ha, if_neg (by decide)] at hQ
              refine wq_l 113 d293_112 rfl rfl rfl rfl ?_
              refine wq_gr (ci := 10) (j := 24) (q := 57) 116 d293_113 rfl rfl rfl rfl ?_
              refine wq_l 117 d293_116 rfl rfl rfl rfl ?_
              refine wq_l 118 d293_117 rfl rfl rfl rfl ?_
              refine wq_gr (ci := 10) (j := 47) (q := 74) 121 d293_118 rfl rfl rfl rfl ?_
              refine wq_l 122 d293_121 rfl rfl rfl rfl ?_
              refine wq_al 123 d293_122 rfl rfl rfl (vp_in_iff.mpr (by rw [ei]; omega)) ?_
              rw [ec, s2.2.2.2.2]
              refine wq_l 125 d293_123 rfl rfl rfl rfl ?_
              refine wq_l 126 d293_125 rfl rfl rfl rfl ?_
              refine wq_gr (ci := 10) (j := 44) (q := 71) 129 d293_126 rfl rfl rfl rfl ?_
              refine wq_l 130 d293_129 rfl rfl rfl rfl ?_
              refine wq_al 131 d293_130 rfl rfl rfl (vp_in_iff.mpr (by rw [ei]; omega)) ?_
              rw [ec, s2.2.1, tv]
              refine wq_vs 134 [_, _] d293_131 rfl rfl m296 rfl (Nat.le_of_ble_eq_true rfl) rfl (re296 N2 (by omega) N5 ?_)
              refine wq_a 135 d293_134 rfl rfl ?_
              rw [nI_ad]
              refine wq_as 136 d293_135 rfl rfl rfl (bi) ?_
              have h136 := rr_ce h i0 (nI (v2.2.2.2.2.2 + c))
              refine wq_l 137 d293_136 rfl rfl rfl rfl ?_
              refine wq_gr (ci := 10) (j := 23) (q := 56) 140 d293_137 rfl rfl rfl rfl ?_
              refine wq_l 141 d293_140 rfl rfl rfl rfl ?_
              refine wq_gr (ci := 10) (j := 19) (q := 52) 144 d293_141 rfl rfl rfl rfl ?_
              refine wq_l 145 d293_144 rfl rfl rfl rfl ?_
              refine wq_al 146 d293_145 rfl rfl rfl (bi) ?_
              rw [pm_rne (by decide), ef]
              refine wq_al 147 d293_146 rfl rfl rfl (rt_b (rr_T h) hi) ?_
              rw [pm_rne (by decide), rt_t h hi]
              refine wq_l 149 d293_147 rfl rfl rfl rfl ?_
              refine wq_k 151 10 d293_149 (by decide) rfl ?_
              refine wq_dv 152 d293_151 rfl rfl (by decide) ?_
              refine wq_k 154 10 d293_152 (by decide) rfl ?_
              refine wq_dv 155 d293_154 rfl rfl (by decide) ?_
              rw [show nI N / 10 - nI N / 10 / 10 * 10 = nI (N / 10 % 10) by rw [show nI N / 10 = nI (N / 10) from nI_dv (b := 10) (by omega) (by decide)]; exact nI_rm (b := 10) (by omega) (by decide), N4]
              refine wq_vs 158 [_, _] d293_155 rfl rfl m290 rfl (Nat.le_of_ble_eq_true rfl) rfl (sp290 ?_)
              refine wq_b 165 161 d293_158 rfl (by decide) rfl (fun c158 => ?_) (fun c158 => ?_)
              · -- pc 165
                have f158 := b2z c158
                refine wq_k 167 31 d293_165 (by decide) rfl ?_
                refine wq_ri d293_167 (rfl) ?_
                rw [f158, if_pos rfl] at hQ
                exact rr_q1 (k := 31) hQ (rr_Fi h136) rfl (by decide)
              · -- pc 161
                have f158 := b2n c158
                refine wq_k 162 0 d293_161 (by decide) rfl ?_
                refine wq_g 167 d293_162 (by decide) ?_
                refine wq_ri d293_167 (rfl) ?_
                rw [f158, if_neg (by decide)] at hQ
                exact rr_q0 hQ h136 rfl
          · rw [if_pos (show p ≠ 1 from p1)] at hQ
            refine wq_s 47 d293_45 rfl rfl (Nat.le_of_ble_eq_true rfl) rfl rfl ?_
            refine wq_l 49 d293_47 rfl rfl rfl rfl ?_
            refine wq_b 64 52 d293_49 rfl (by decide) rfl (fun c49 => absurd c49 (by rw [i_lt, nI_toInt (by omega)]; show ¬ (N : Int) < 0; omega)) (fun c49 => ?_)
            refine wq_l 54 d293_52 rfl rfl rfl rfl ?_
            refine wq_k 56 100 d293_54 (by decide) rfl ?_
            refine wq_dv 57 d293_56 rfl rfl (by decide) ?_
            refine wq_k 59 10 d293_57 (by decide) rfl ?_
            refine wq_dv 60 d293_59 rfl rfl (by decide) ?_
            rw [show nI N / 100 - nI N / 100 / 10 * 10 = nI (N / 100 % 10) by rw [show nI N / 100 = nI (N / 100) from nI_dv (b := 100) (by omega) (by decide)]; exact nI_rm (b := 10) (by omega) (by decide), N3]
            refine wq_k 61 1 d293_60 (by decide) rfl ?_
            refine wq_b 67 64 d293_61 rfl (by decide) rfl (fun c61 => absurd c61 (by rw [if_neg p1]; decide)) (fun c61 => ?_)
            refine wq_k 66 32 d293_64 (by decide) rfl ?_
            refine wq_ri d293_66 (rfl) ?_
            exact rr_q1 (k := 32) hQ (rr_Fi h) rfl (by decide)
  · rw [if_pos e0] at hQ
    refine wq_m m293 (Nat.le_of_ble_eq_true rfl) (by decide) rfl ?_
    refine wq_l 1 d293_0 rfl rfl rfl rfl ?_
    refine wq_gr (ci := 10) (j := 22) (q := 55) 4 d293_1 rfl rfl rfl rfl ?_
    refine wq_l 5 d293_4 rfl rfl rfl rfl ?_
    refine wq_al 6 d293_5 rfl rfl rfl (bi) ?_
    rw [eq]
    refine wq_s 7 d293_6 rfl rfl (Nat.le_of_ble_eq_true rfl) rfl rfl ?_
    refine wq_l 8 d293_7 rfl rfl rfl rfl ?_
    refine wq_l 9 d293_8 rfl rfl rfl rfl ?_
    refine wq_gr (ci := 10) (j := 18) (q := 51) 12 d293_9 rfl rfl rfl rfl ?_
    refine wq_l 13 d293_12 rfl rfl rfl rfl ?_
    refine wq_al 14 d293_13 rfl rfl rfl (bo) ?_
    rw [em]
    refine wq_k 15 2 d293_14 (by decide) rfl ?_
    refine wq_v 18 [_, _] d293_15 rfl rfl m292 rfl rfl (Nat.le_of_ble_eq_true rfl) rfl (re292 h hp hB hs (s := 2) (by decide) hR ?_)
    refine wq_b 23 21 d293_18 rfl (by decide) rfl (fun c18 => absurd c18 (by rw [i_le, es]; show ¬ _ ≤ (0 : Int); omega)) (fun c18 => ?_)
    refine wq_k 22 0 d293_21 (by decide) rfl ?_
    refine wq_ri d293_22 (rfl) ?_
    exact rr_q0 hQ h rfl
