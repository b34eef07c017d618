theorem d200_0 : decode prog_14_method_120_code 0 = .ok (.aload_n 0, 1) := by decide +kernel
theorem d200_1 : decode prog_14_method_120_code 1 = .ok (.invokevirtual 707, 3) := by decide +kernel
theorem d200_4 : decode prog_14_method_120_code 4 = .ok (.aload_n 0, 1) := by decide +kernel
theorem d200_5 : decode prog_14_method_120_code 5 = .ok (.iconst 0, 1) := by decide +kernel
theorem d200_6 : decode prog_14_method_120_code 6 = .ok (.putfield 542, 3) := by decide +kernel
theorem d200_9 : decode prog_14_method_120_code 9 = .ok (.aload_n 0, 1) := by decide +kernel
theorem d200_10 : decode prog_14_method_120_code 10 = .ok (.iconst 0, 1) := by decide +kernel
theorem d200_11 : decode prog_14_method_120_code 11 = .ok (.putfield 552, 3) := by decide +kernel
theorem d200_14 : decode prog_14_method_120_code 14 = .ok (.aload_n 0, 1) := by decide +kernel
theorem d200_15 : decode prog_14_method_120_code 15 = .ok (.iconst 0, 1) := by decide +kernel
theorem d200_16 : decode prog_14_method_120_code 16 = .ok (.putfield 635, 3) := by decide +kernel
theorem d200_19 : decode prog_14_method_120_code 19 = .ok (.aload_n 0, 1) := by decide +kernel
theorem d200_20 : decode prog_14_method_120_code 20 = .ok (.getfield 135, 3) := by decide +kernel
theorem d200_23 : decode prog_14_method_120_code 23 = .ok (.ifCond .ne 7, 3) := by decide +kernel
theorem d200_26 : decode prog_14_method_120_code 26 = .ok (.aload_n 0, 1) := by decide +kernel
theorem d200_27 : decode prog_14_method_120_code 27 = .ok (.invokevirtual 710, 3) := by decide +kernel
theorem d200_30 : decode prog_14_method_120_code 30 = .ok (.aload_n 0, 1) := by decide +kernel
theorem d200_31 : decode prog_14_method_120_code 31 = .ok (.aload_n 0, 1) := by decide +kernel
theorem d200_32 : decode prog_14_method_120_code 32 = .ok (.getfield 135, 3) := by decide +kernel
theorem d200_35 : decode prog_14_method_120_code 35 = .ok (.ifCond .ne 7, 3) := by decide +kernel
theorem d200_38 : decode prog_14_method_120_code 38 = .ok (.iconst 1, 1) := by decide +kernel
theorem d200_39 : decode prog_14_method_120_code 39 = .ok (.goto 4, 3) := by decide +kernel
theorem d200_42 : decode prog_14_method_120_code 42 = .ok (.iconst 0, 1) := by decide +kernel
theorem d200_43 : decode prog_14_method_120_code 43 = .ok (.putfield 713, 3) := by decide +kernel
theorem d200_46 : decode prog_14_method_120_code 46 = .ok (.aload_n 0, 1) := by decide +kernel
theorem d200_47 : decode prog_14_method_120_code 47 = .ok (.aload_n 0, 1) := by decide +kernel
theorem d200_48 : decode prog_14_method_120_code 48 = .ok (.getfield 135, 3) := by decide +kernel
theorem d200_51 : decode prog_14_method_120_code 51 = .ok (.putfield 717, 3) := by decide +kernel
theorem d200_54 : decode prog_14_method_120_code 54 = .ok (.aload_n 0, 1) := by decide +kernel
theorem d200_55 : decode prog_14_method_120_code 55 = .ok (.aload_n 0, 1) := by decide +kernel
theorem d200_56 : decode prog_14_method_120_code 56 = .ok (.getfield 135, 3) := by decide +kernel
theorem d200_59 : decode prog_14_method_120_code 59 = .ok (.ifCond .ne 7, 3) := by decide +kernel
theorem d200_62 : decode prog_14_method_120_code 62 = .ok (.iconst (-1), 1) := by decide +kernel
theorem d200_63 : decode prog_14_method_120_code 63 = .ok (.goto 7, 3) := by decide +kernel
theorem d200_66 : decode prog_14_method_120_code 66 = .ok (.aload_n 0, 1) := by decide +kernel
theorem d200_67 : decode prog_14_method_120_code 67 = .ok (.getfield 138, 3) := by decide +kernel
theorem d200_70 : decode prog_14_method_120_code 70 = .ok (.putfield 107, 3) := by decide +kernel
theorem d200_73 : decode prog_14_method_120_code 73 = .ok (.aload_n 0, 1) := by decide +kernel
theorem d200_74 : decode prog_14_method_120_code 74 = .ok (.iconst 0, 1) := by decide +kernel
theorem d200_75 : decode prog_14_method_120_code 75 = .ok (.putfield 720, 3) := by decide +kernel
theorem d200_78 : decode prog_14_method_120_code 78 = .ok (.iconst 0, 1) := by decide +kernel
theorem d200_79 : decode prog_14_method_120_code 79 = .ok (.istore_n 1, 1) := by decide +kernel
theorem d200_80 : decode prog_14_method_120_code 80 = .ok (.iload_n 1, 1) := by decide +kernel
theorem d200_81 : decode prog_14_method_120_code 81 = .ok (.ifCond .lt 40, 3) := by decide +kernel
theorem d200_84 : decode prog_14_method_120_code 84 = .ok (.aload_n 0, 1) := by decide +kernel
theorem d200_85 : decode prog_14_method_120_code 85 = .ok (.getfield 713, 3) := by decide +kernel
theorem d200_88 : decode prog_14_method_120_code 88 = .ok (.ifCond .eq 33, 3) := by decide +kernel
theorem d200_91 : decode prog_14_method_120_code 91 = .ok (.aload_n 0, 1) := by decide +kernel
theorem d200_92 : decode prog_14_method_120_code 92 = .ok (.getfield 111, 3) := by decide +kernel
theorem d200_95 : decode prog_14_method_120_code 95 = .ok (.aload_n 0, 1) := by decide +kernel
theorem d200_96 : decode prog_14_method_120_code 96 = .ok (.getfield 720, 3) := by decide +kernel
theorem d200_99 : decode prog_14_method_120_code 99 = .ok (.iload_n 1, 1) := by decide +kernel
theorem d200_100 : decode prog_14_method_120_code 100 = .ok (.iastore, 1) := by decide +kernel
theorem d200_101 : decode prog_14_method_120_code 101 = .ok (.aload_n 0, 1) := by decide +kernel
theorem d200_102 : decode prog_14_method_120_code 102 = .ok (.dup, 1) := by decide +kernel
theorem d200_103 : decode prog_14_method_120_code 103 = .ok (.getfield 720, 3) := by decide +kernel
theorem d200_106 : decode prog_14_method_120_code 106 = .ok (.iconst 1, 1) := by decide +kernel
theorem d200_107 : decode prog_14_method_120_code 107 = .ok (.iadd, 1) := by decide +kernel
theorem d200_108 : decode prog_14_method_120_code 108 = .ok (.putfield 720, 3) := by decide +kernel
theorem d200_111 : decode prog_14_method_120_code 111 = .ok (.aload_n 0, 1) := by decide +kernel
theorem d200_112 : decode prog_14_method_120_code 112 = .ok (.iload_n 1, 1) := by decide +kernel
theorem d200_113 : decode prog_14_method_120_code 113 = .ok (.iconst 0, 1) := by decide +kernel
theorem d200_114 : decode prog_14_method_120_code 114 = .ok (.invokevirtual 632, 3) := by decide +kernel
theorem d200_117 : decode prog_14_method_120_code 117 = .ok (.istore_n 1, 1) := by decide +kernel
theorem d200_118 : decode prog_14_method_120_code 118 = .ok (.goto (-38), 3) := by decide +kernel
theorem d200_121 : decode prog_14_method_120_code 121 = .ok (.aload_n 0, 1) := by decide +kernel
theorem d200_122 : decode prog_14_method_120_code 122 = .ok (.getfield 135, 3) := by decide +kernel
theorem d200_125 : decode prog_14_method_120_code 125 = .ok (.ireturn, 1) := by decide +kernel
/-! JUDGE of the reference -/
theorem rf_pt {T : pg_T} {c : pg_C} (hY : c.2.1 = 2 → T.1 c.1 ≠ 45) (h : ¬ pg_is T 44 c = true) : rf_f T (pg_stop c) = pt_f T c ∧ pg_dead T (pg_stop c) := by
  refine ⟨?_, ?_⟩
  · unfold rf_f pt_f
    show (if T.1 c.1 = 45 then nI (T.2.2 c.1) else if (if c.2.1 = 0 then 1 else c.2.1) = 2 then 7 else 6) = _
    by_cases w : c.2.1 = 2
    · rw [if_neg (hY w), if_neg (c := c.2.1 = 0) (by omega), if_pos w, if_pos w]
    · rw [if_neg w, if_neg h]
      by_cases u : T.1 c.1 = 45
      · rw [if_pos u, if_pos u]
      · rw [if_neg u, if_neg u]
        by_cases v : c.2.1 = 0
        · rw [if_pos v, if_neg (by decide)]
        · rw [if_neg v, if_neg w]
  · refine Or.inl ?_
    show (if c.2.1 = 0 then 1 else c.2.1) ≠ 0
    by_cases v : c.2.1 = 0
    · rw [if_pos v]; decide
    · rw [if_neg v]; exact v
theorem tx_Y (T : pg_T) : (tx_c T).2.1 = 2 → T.1 (tx_c T).1 ≠ 45 := by
  have hg : pg_G T (pg_any T [0, 2, 4]) := pg_gany T (by decide)
  exact pg_yd (b := pg_whl (pg_any T [0, 2, 4]) (pg_block T) pg_M) (c := (0, 0, 0)) (pg_dwhl hg pg_M) (pg_Yblocks T pg_M) (fun z => absurd (show (0 : Nat) = 2 from z) (by decide))
/-- the names of both -/
theorem rs_Rx {t : Nat → Nat} {M n : Nat} {σ : pm_S} (hN : rp_n t M n) (ht : ∀ i, t i < 256) (h : rx_N σ t M (rq_ps t M n)) : rs_R (nq_R t M n) σ := by
  refine ⟨fun v r v' r' h1 h2 => nq_eq hN h1 h2, fun v r hr => ?_⟩
  obtain ⟨j, j1, j2, j3, j4⟩ := hr
  obtain ⟨l1, l2⟩ := nq_lv hN j1 j2
  have hb := nq_b hN j1 j2
  obtain ⟨p, p1, p2⟩ := nq_r hN.1 hb j2
  obtain ⟨_, n2, n3, _⟩ := h
  have jn : j + 1 ≤ n := by omega
  have pre := nq_pm (t := t) (M := M) (n - (j + 1)) (j + 1)
  rw [show j + 1 + (n - (j + 1)) = n by omega] at pre
  have p3 : (rq_ps t M n)[rq_v t M j]? = some p := by
    obtain ⟨s, hs⟩ := pre
    have hl : rq_v t M j < (rq_ps t M (j + 1)).length := by
      rcases Nat.lt_or_ge (rq_v t M j) (rq_ps t M (j + 1)).length with w | w
      · exact w
      · rw [List.getElem?_eq_none w] at p1; cases p1
    rw [← hs, List.getElem?_append_left hl]
    exact p1
  have hl : rq_v t M j < (rq_ps t M n).length := by
    rcases Nat.lt_or_ge (rq_v t M j) (rq_ps t M n).length with w | w
    · exact w
    · rw [List.getElem?_eq_none w] at p3; cases p3
  rw [j3, j4, nI_toInt (by omega), nI_toInt (by omega), nI_clamp (by omega), nI_clamp (by omega)]
  refine ⟨by omega, by omega, by omega, fun k k1 k2 => ?_⟩
  rw [(n3 _ p p3).2.2.1, p2]
  exact nq_fx hN ht j1 j2 k1 k2
theorem rs_Tx {t : Nat → Nat} {M n : Nat} {σ : pm_S} {l : List pg_N} {a : Nat → Nat} (h : rg_T t M n σ l a) : rs_T l a (nq_R t M n) σ := by
  obtain ⟨_, h1, h2, h3, h4, h5⟩ := h
  refine ⟨h1, h2, fun i hi => ?_, h4, h5⟩
  obtain ⟨g1, g2, g3, g4, g5, g6, g7⟩ := h3 i hi
  exact ⟨g1, g2, g3, g4, g5, g6, g7⟩
theorem re275z {d : Nat} {l : List pg_N} {a : Nat → Nat} {R : Int32 → Int32 → Prop} {σ : pm_S} {Q : Option Value → pm_S → Prop} {NN i : Nat} (T : rs_T l a R σ) (hG : lg_G l NN) (hi : i < l.length) (hQ : Q (some (.int (if i + 1 < l.length then nI (a (i + 1)) else -1))) σ) : pm_call pm_Y0 (d + 1) 275 [.ref 10, .int (nI (a i)), .int 0] σ Q := by
  have h := re275 (d := d) (Q := Q) (t := 0) (i := i) T hG hG.2.2.1 (Nat.zero_le _) (by rw [hG.2.1]; omega) (by rw [hG.2.1, Nat.zero_add]; exact hQ)
  rw [T.1] at h
  exact h
/-- the nodes in their order -/
theorem re200l {d : Nat} {l : List pg_N} {a : Nat → Nat} {R : Int32 → Int32 → Prop} {σ0 : pm_S} {Q : Option Value → pm_S → Prop} {NN : Nat} {f : Int32} (hG : lg_G l NN) (T0 : rs_T l a R σ0) (h50 : ¬ σ0.1 10 50 = 0) (h6 : σ0.1 10 6 = f) (hQ : ∀ σ', (∀ x b, (x = 10 ∧ b = 54) ∨ σ'.1 x b = σ0.1 x b) → σ'.2.1 = σ0.2.1 → (∀ k, k ≠ 75 → σ'.2.2 k = σ0.2.2 k) → σ'.1 10 54 = nI l.length → (∀ j, j < l.length → σ'.2.2 75 j = nI (a j)) → Q (some (.int f)) σ') : ∀ (n i : Nat) (σ : pm_S), i + n = l.length → (∀ x b, (x = 10 ∧ b = 54) ∨ σ.1 x b = σ0.1 x b) → σ.2.1 = σ0.2.1 → (∀ k, k ≠ 75 → σ.2.2 k = σ0.2.2 k) → σ.1 10 54 = nI i → (∀ j, j < i → σ.2.2 75 j = nI (a j)) → pm_WP pm_Y0 (pm_call pm_Y0 (d + 1)) 10 prog_14_method_120_code (some FieldType.int) Q 80 [.ref 10, .int (if i < l.length then nI (a i) else -1)] [] σ := by
  have hll := hG.2.2.2.1
  intro n
  induction n with
  | zero =>
    intro i σ hi g1 g2 g3 g4 g5
    obtain rfl : i = l.length := by omega
    rw [if_neg (Nat.lt_irrefl _)]
    have e6 : σ.1 10 6 = f := ((g1 10 6).resolve_left (fun z => by omega)).trans h6
    refine wq_l 81 d200_80 rfl rfl rfl rfl ?_
    refine wq_b 121 84 d200_81 rfl (by decide) rfl (fun c81 => ?_) (fun c81 => absurd (by decide) c81)
    refine wq_l 122 d200_121 rfl rfl rfl rfl ?_
    refine wq_gf (ci := 10) (j := 6) (f := 0) (v := .int (f)) 125 d200_122 rfl rfl rfl (congrArg Value.int (e6)) rfl ?_
    refine wq_ri d200_125 (rfl) ?_
    exact hQ σ g1 g2 g3 g4 g5
  | succ n ih =>
    intro i σ hi g1 g2 g3 g4 g5
    have il : i < l.length := by omega
    rw [if_pos il]
    have T : rs_T l a R σ := by
      obtain ⟨t1, t2, t3, t4⟩ := T0
      refine ⟨t1, t2, fun j hj => ?_, ?_⟩
      · rw [g3 49 (by decide), g3 50 (by decide), g3 51 (by decide), g3 52 (by decide), g3 53 (by decide), g3 54 (by decide), g3 55 (by decide)]
        exact t3 j hj
      · rw [g3 54 (by decide), g3 55 (by decide)]; exact t4
    have ean := nI_toInt (n := a i) (by have := (T.2.2.1 i il).1; omega)
    have e50 : σ.1 10 50 = σ0.1 10 50 := (g1 10 50).resolve_left (fun z => by omega)
    have ei := nI_toInt (n := i) (by omega)
    have eic := nI_clamp (n := i) (by omega)
    refine wq_l 81 d200_80 rfl rfl rfl rfl ?_
    refine wq_b 121 84 d200_81 rfl (by decide) rfl (fun c81 => absurd c81 (by rw [i_lt, ean]; show ¬ _ < (0 : Int); omega)) (fun c81 => ?_)
    refine wq_l 85 d200_84 rfl rfl rfl rfl ?_
    refine wq_gf (ci := 10) (j := 50) (f := 0) (v := .int (σ0.1 10 50)) 88 d200_85 rfl rfl rfl (congrArg Value.int (e50)) rfl ?_
    refine wq_b 121 91 d200_88 rfl (by decide) rfl (fun c88 => absurd c88 (h50)) (fun c88 => ?_)
    refine wq_l 92 d200_91 rfl rfl rfl rfl ?_
    refine wq_gr (ci := 10) (j := 53) (q := 75) 95 d200_92 rfl rfl rfl rfl ?_
    refine wq_l 96 d200_95 rfl rfl rfl rfl ?_
    refine wq_gf (ci := 10) (j := 54) (f := 0) (v := .int (nI i)) 99 d200_96 rfl rfl rfl (congrArg Value.int (g4)) rfl ?_
    refine wq_l 100 d200_99 rfl rfl rfl rfl ?_
    refine wq_as 101 d200_100 rfl rfl rfl (vp_in_iff.mpr (by rw [ei]; omega)) ?_
    refine wq_l 102 d200_101 rfl rfl rfl rfl ?_
    refine wq_a 103 d200_102 rfl rfl ?_
    refine wq_gf (ci := 10) (j := 54) (f := 0) (v := .int (nI i)) 106 d200_103 rfl rfl rfl (congrArg Value.int (g4)) rfl ?_
    refine wq_k 107 1 d200_106 (by decide) rfl ?_
    refine wq_a 108 d200_107 rfl rfl ?_
    rw [nI_1]
    refine wq_pf (ci := 10) (j := 54) 111 d200_108 rfl rfl rfl ⟨rfl, rfl⟩ rfl ?_
    refine wq_l 112 d200_111 rfl rfl rfl rfl ?_
    refine wq_l 113 d200_112 rfl rfl rfl rfl ?_
    refine wq_k 114 0 d200_113 (by decide) rfl ?_
    refine wq_v 117 [_, _] d200_114 rfl rfl m275 rfl rfl (Nat.le_of_ble_eq_true rfl) rfl (re275z (a := a) (R := R) (i := i) ?_ hG il ?_)
    · exact T
    refine wq_s 118 d200_117 rfl rfl (Nat.le_of_ble_eq_true rfl) rfl rfl ?_
    refine wq_g 80 d200_118 (by decide) ?_
    rw [eic, pm_nr0]
    refine ih (i + 1) _ (by omega) (fun x b => ?_) g2 (fun k hk => ?_) rfl (fun j hj => ?_)
    · by_cases q : x = 10 ∧ b = 54
      · exact Or.inl q
      · right
        have e : (pm_pi (pm_pr σ 75 (upd (σ.2.2 75) i (nI (a i)))) 10 54 (nI (i + 1))).1 x b = σ.1 x b := by
          unfold pm_pi
          by_cases q1 : x = 10
          · by_cases q2 : b = 54
            · exact absurd ⟨q1, q2⟩ q
            · simp [q1, q2]; rfl
          · simp [q1]; rfl
        rw [e]
        exact (g1 x b).resolve_left q
    · show (pm_pr σ 75 _).2.2 k = _
      rw [pm_rne hk]; exact g3 k hk
    · show (pm_pr σ 75 _).2.2 75 j = _
      rw [pm_req, upd_if]
      by_cases q : j = i
      · rw [if_pos q, q]
      · rw [if_neg q]; exact g5 j (by omega)
