/-! FOR in the class -/
abbrev rl_lc (l : List pg_N) (i : Nat) (t : Int32) : Prop := (((rl_c l i).takeWhile (fun c => rl_k l c != 11)).any (fun c => rl_bad (rl_k l c) (rl_v l c) t)) = true ∨ (if ((rl_c l i).takeWhile (fun c => rl_k l c != 11)).length = 3 then (rl_v l ((rl_c l i).getD 2 0)).toInt else 1) = 0 ∨ 1000000 < rl_tim (rl_v l ((rl_c l i).getD 0 0)).toInt (rl_v l ((rl_c l i).getD 1 0)).toInt (if ((rl_c l i).takeWhile (fun c => rl_k l c != 11)).length = 3 then (rl_v l ((rl_c l i).getD 2 0)).toInt else 1)
theorem rl_for_u {l : List pg_N} {A : rl_A} {i : Nat} : rl_for l A i = if rl_srt A (rl_v l i) 0 ≠ 0 then (rl_srt A (rl_v l i) 0, A) else if (rl_var A (rl_v l i)).2.2.1 = 0 then (22, A) else if rl_asg l A i (rl_v l i) ≠ 0 then (rl_asg l A i (rl_v l i), A) else if rl_lc l i (rl_var A (rl_v l i)).2.2.1 then (36, A) else (0, rl_ce A i (nI (rl_var A (rl_v l i)).2.2.2.2.2)) := rfl
theorem lg_lc {l : List pg_N} {i m : Nat} (t : Int32) (hm : m = 2 ∨ m = 3) (hk : ∀ j, i < j → j ≤ i + m → rl_k l j = 30 ∨ rl_k l j = 31) (h11 : rl_k l (i + 1 + m) = 11) (hc : rl_c l i = (if m = 2 then [i + 1, i + 2, i + 3] else [i + 1, i + 2, i + 3, i + 4])) : rl_lc l i t ↔ ((∃ j, i < j ∧ j < i + 1 + m ∧ rl_bad (rl_k l j) (rl_v l j) t = true) ∨ (if m = 2 then 1 else (rl_v l (i + 3)).toInt) = 0 ∨ 1000000 < rl_tim (rl_v l (i + 1)).toInt (rl_v l (i + 2)).toInt (if m = 2 then 1 else (rl_v l (i + 3)).toInt)) := by
  have n1 : (rl_k l (i + 1) != 11) = true := bne_iff_ne.mpr (by have := hk (i + 1) (by omega) (by omega); omega)
  have n2 : (rl_k l (i + 2) != 11) = true := bne_iff_ne.mpr (by have := hk (i + 2) (by omega) (by omega); omega)
  rcases hm with hm | hm
  · subst hm
    rw [if_pos rfl] at hc
    have n3 : ¬ (rl_k l (i + 3) != 11) = true := by rw [h11]; decide
    unfold rl_lc
    rw [hc, List.takeWhile_cons_of_pos (p := fun c => rl_k l c != 11) n1, List.takeWhile_cons_of_pos (p := fun c => rl_k l c != 11) n2, List.takeWhile_cons_of_neg (p := fun c => rl_k l c != 11) n3]
    have e : (∃ j, i < j ∧ j < i + 1 + 2 ∧ rl_bad (rl_k l j) (rl_v l j) t = true) ↔ ([i + 1, i + 2].any (fun c => rl_bad (rl_k l c) (rl_v l c) t)) = true := by
      rw [List.any_eq_true]
      constructor
      · rintro ⟨j, j1, j2, j3⟩
        refine ⟨j, ?_, j3⟩
        have : j = i + 1 ∨ j = i + 2 := by omega
        rcases this with w | w <;> simp [w]
      · rintro ⟨j, j1, j2⟩
        refine ⟨j, ?_, ?_, j2⟩ <;> (simp at j1; omega)
    rw [e]
    exact Iff.rfl
  · subst hm
    rw [if_neg (by decide)] at hc
    have n3 : (rl_k l (i + 3) != 11) = true := bne_iff_ne.mpr (by have := hk (i + 3) (by omega) (by omega); omega)
    have n4 : ¬ (rl_k l (i + 4) != 11) = true := by rw [show i + 4 = i + 1 + 3 by omega, h11]; decide
    unfold rl_lc
    rw [hc, List.takeWhile_cons_of_pos (p := fun c => rl_k l c != 11) n1, List.takeWhile_cons_of_pos (p := fun c => rl_k l c != 11) n2, List.takeWhile_cons_of_pos (p := fun c => rl_k l c != 11) n3, List.takeWhile_cons_of_neg (p := fun c => rl_k l c != 11) n4]
    have e : (∃ j, i < j ∧ j < i + 1 + 3 ∧ rl_bad (rl_k l j) (rl_v l j) t = true) ↔ ([i + 1, i + 2, i + 3].any (fun c => rl_bad (rl_k l c) (rl_v l c) t)) = true := by
      rw [List.any_eq_true]
      constructor
      · rintro ⟨j, j1, j2, j3⟩
        refine ⟨j, ?_, j3⟩
        have : j = i + 1 ∨ j = i + 2 ∨ j = i + 3 := by omega
        rcases this with w | w | w <;> simp [w]
      · rintro ⟨j, j1, j2⟩
        refine ⟨j, ?_, ?_, j2⟩ <;> (simp at j1; omega)
    rw [e]
    exact Iff.rfl
theorem cr189 {d : Nat} {l : List pg_N} {NN nx : Nat} {σ0 σ : pm_S} {A : rl_A} {Q : Option Value → pm_S → Prop} {i : Nat} {t : Int32} (hG : lg_G l NN) (h : cr_I l NN σ0 σ nx A) (hi : i < l.length) (hk : rl_k l i = 19) (ht : t = 1 ∨ t = 2) (hb : rl_lc l i t → Q (some (.int 0)) σ) (hg : ¬ rl_lc l i t → Q (some (.int 1)) σ) : pm_call pm_Y0 (d + 2) 189 [.ref 9, .int (nI i), .int t] σ Q := by
  obtain ⟨mm, m1, m2, m3, m4, m5⟩ := lg_19 hG hi hk
  have LC := lg_lc t m1 m2 m3 m5
  obtain ⟨z1, z2, z3⟩ := lg_cl hG hi
  have hl := h.2.1.1
  have tm : (1000000 : Int64).toInt = 1000000 := by decide
  have s3 : nI i + 3 = nI (i + 3) := nI_add i 3
  have s2 : nI i + 2 = nI (i + 2) := nI_add i 2
  rcases m1 with m1 | m1
  · subst m1
    simp only [if_pos] at LC
    have hbad : (∃ j, i < j ∧ j < i + 1 + 2 ∧ rl_bad (rl_k l j) (rl_v l j) t = true) → Q (some (.int 0)) σ := fun z => hb (LC.mpr (Or.inl z))
    have sb : nI (i + 1 + 2) - nI i = nI (1 + 2) := by rw [show i + 1 + 2 = (1 + 2) + i by omega]; exact nI_sb _ _
    have fin : ∀ w5 : Value, (∀ j, i < j → j < i + 1 + 2 → rl_bad (rl_k l j) (rl_v l j) t = false) → pm_WP pm_Y0 (pm_call pm_Y0 (d + 1)) 9 prog_8_method_11_code (some FieldType.boolean) Q 69 [.ref 9, .int (nI i), .int t, .int (nI (i + 1 + 2)), .int (nI (i + rl_z l i)), w5] [] σ := by
      intro w5 hno
      have hno' : ¬ ∃ j, i < j ∧ j < i + 1 + 2 ∧ rl_bad (rl_k l j) (rl_v l j) t = true := fun ⟨j, j1, j2, j3⟩ => by rw [hno j j1 j2] at j3; cases j3
      refine wq_l 70 d189_69 rfl rfl rfl rfl ?_
      refine wq_l 71 d189_70 rfl rfl rfl rfl ?_
      refine wq_a 72 d189_71 rfl rfl ?_
      rw [sb]
      refine wq_k 73 3 d189_72 (by decide) rfl ?_
      refine wq_b 89 76 d189_73 rfl (by decide) rfl (fun c73 => ?_) (fun c73 => absurd (by decide) c73)
      refine wq_k 90 1 d189_89 (by decide) rfl ?_
      refine wq_s 92 d189_90 rfl rfl (Nat.le_of_ble_eq_true rfl) rfl rfl ?_
      refine wq_l 94 d189_92 rfl rfl rfl rfl ?_
      refine wq_b 136 97 d189_94 rfl (by decide) rfl (fun c94 => absurd c94 (by decide)) (fun c94 => ?_)
      refine wq_l 98 d189_97 rfl rfl rfl rfl ?_
      refine wq_gr (ci := 9) (j := 0) (q := 3) 101 d189_98 rfl rfl rfl rfl ?_
      refine wq_l 102 d189_101 rfl rfl rfl rfl ?_
      refine wq_k 103 1 d189_102 (by decide) rfl ?_
      refine wq_a 104 d189_103 rfl rfl ?_
      rw [nI_1]
      refine wq_v 107 [_] d189_104 rfl rfl m66 rfl rfl (Nat.le_of_ble_eq_true rfl) rfl (ck66 (cr_S h) (by omega) ?_)
      refine wq_a 108 d189_107 rfl rfl ?_
      refine wq_l 109 d189_108 rfl rfl rfl rfl ?_
      refine wq_gr (ci := 9) (j := 0) (q := 3) 112 d189_109 rfl rfl rfl rfl ?_
      refine wq_l 113 d189_112 rfl rfl rfl rfl ?_
      refine wq_k 114 2 d189_113 (by decide) rfl ?_
      refine wq_a 115 d189_114 rfl rfl ?_
      rw [s2]
      refine wq_v 118 [_] d189_115 rfl rfl m66 rfl rfl (Nat.le_of_ble_eq_true rfl) rfl (ck66 (cr_S h) (by omega) ?_)
      refine wq_a 119 d189_118 rfl rfl ?_
      refine wq_l 121 d189_119 rfl rfl rfl rfl ?_
      refine wq_a 122 d189_121 rfl rfl ?_
      refine wq_vs 125 [_, _, _] d189_122 rfl rfl m190 rfl (Nat.le_of_ble_eq_true rfl) rfl (sp190 (lg_32 _).1 (lg_32 _).1 (lg_32 _).1 (fun r er => ?_))
      rw [(lg_32 _).2, (lg_32 _).2, (lg_32 _).2] at er
      refine wq_cl 128 d189_125 rfl rfl ?_
      refine wq_a 129 d189_128 rfl rfl ?_
      refine wq_b 136 132 d189_129 rfl (by decide) rfl (fun c129 => ?_) (fun c129 => ?_)
      · -- pc 136
        refine wq_k 137 0 d189_136 (by decide) rfl ?_
        refine wq_ri d189_137 (rfl) ?_
        refine hb (LC.mpr (Or.inr (Or.inr ?_)))
        rw [lc_gt, er] at c129
        exact c129
      · -- pc 132
        refine wq_k 133 1 d189_132 (by decide) rfl ?_
        refine wq_g 137 d189_133 (by decide) ?_
        refine wq_ri d189_137 (rfl) ?_
        refine hg (fun z => ?_)
        rw [lc_gt, er] at c129
        rcases LC.mp z with w | w | w
        · exact hno' w
        · exact absurd w (by decide)
        · exact c129 w
    refine wq_m m189 (Nat.le_of_ble_eq_true rfl) (by decide) rfl ?_
    refine wq_l 1 d189_0 rfl rfl rfl rfl ?_
    refine wq_k 2 1 d189_1 (by decide) rfl ?_
    refine wq_a 3 d189_2 rfl rfl ?_
    rw [nI_1]
    refine wq_s 4 d189_3 rfl rfl (Nat.le_of_ble_eq_true rfl) rfl rfl ?_
    refine wq_l 5 d189_4 rfl rfl rfl rfl ?_
    refine wq_gr (ci := 9) (j := 0) (q := 3) 8 d189_5 rfl rfl rfl rfl ?_
    refine wq_l 9 d189_8 rfl rfl rfl rfl ?_
    refine wq_v 12 [_] d189_9 rfl rfl m63 rfl rfl (Nat.le_of_ble_eq_true rfl) rfl (ck63 (cr_S h) (by omega) ?_)
    refine wq_s 14 d189_12 rfl rfl (Nat.le_of_ble_eq_true rfl) rfl rfl ?_
    exact cr189l (mm := i + 1 + 2) hG h ht m4 z1 m3 hbad (fin _) (2) (i + 1) (by omega) (by omega) (by omega) (fun j a b => m2 j (by omega) (by omega)) (fun j a b => by omega)
  · subst m1
    simp only [show ¬ (3 : Nat) = 2 by decide, if_false] at LC
    have hbad : (∃ j, i < j ∧ j < i + 1 + 3 ∧ rl_bad (rl_k l j) (rl_v l j) t = true) → Q (some (.int 0)) σ := fun z => hb (LC.mpr (Or.inl z))
    have sb : nI (i + 1 + 3) - nI i = nI (1 + 3) := by rw [show i + 1 + 3 = (1 + 3) + i by omega]; exact nI_sb _ _
    have fin : ∀ w5 : Value, (∀ j, i < j → j < i + 1 + 3 → rl_bad (rl_k l j) (rl_v l j) t = false) → pm_WP pm_Y0 (pm_call pm_Y0 (d + 1)) 9 prog_8_method_11_code (some FieldType.boolean) Q 69 [.ref 9, .int (nI i), .int t, .int (nI (i + 1 + 3)), .int (nI (i + rl_z l i)), w5] [] σ := by
      intro w5 hno
      have hno' : ¬ ∃ j, i < j ∧ j < i + 1 + 3 ∧ rl_bad (rl_k l j) (rl_v l j) t = true := fun ⟨j, j1, j2, j3⟩ => by rw [hno j j1 j2] at j3; cases j3
      refine wq_l 70 d189_69 rfl rfl rfl rfl ?_
      refine wq_l 71 d189_70 rfl rfl rfl rfl ?_
      refine wq_a 72 d189_71 rfl rfl ?_
      rw [sb]
      refine wq_k 73 3 d189_72 (by decide) rfl ?_
      refine wq_b 89 76 d189_73 rfl (by decide) rfl (fun c73 => absurd c73 (by decide)) (fun c73 => ?_)
      refine wq_l 77 d189_76 rfl rfl rfl rfl ?_
      refine wq_gr (ci := 9) (j := 0) (q := 3) 80 d189_77 rfl rfl rfl rfl ?_
      refine wq_l 81 d189_80 rfl rfl rfl rfl ?_
      refine wq_k 82 3 d189_81 (by decide) rfl ?_
      refine wq_a 83 d189_82 rfl rfl ?_
      rw [s3]
      refine wq_v 86 [_] d189_83 rfl rfl m66 rfl rfl (Nat.le_of_ble_eq_true rfl) rfl (ck66 (cr_S h) (by omega) ?_)
      refine wq_g 90 d189_86 (by decide) ?_
      refine wq_s 92 d189_90 rfl rfl (Nat.le_of_ble_eq_true rfl) rfl rfl ?_
      refine wq_l 94 d189_92 rfl rfl rfl rfl ?_
      refine wq_b 136 97 d189_94 rfl (by decide) rfl (fun c94 => ?_) (fun c94 => ?_)
      · -- pc 136
        refine wq_k 137 0 d189_136 (by decide) rfl ?_
        refine wq_ri d189_137 (rfl) ?_
        refine hb (LC.mpr (Or.inr (Or.inl ?_)))
        rw [c94]; decide
      · -- pc 97
        refine wq_l 98 d189_97 rfl rfl rfl rfl ?_
        refine wq_gr (ci := 9) (j := 0) (q := 3) 101 d189_98 rfl rfl rfl rfl ?_
        refine wq_l 102 d189_101 rfl rfl rfl rfl ?_
        refine wq_k 103 1 d189_102 (by decide) rfl ?_
        refine wq_a 104 d189_103 rfl rfl ?_
        rw [nI_1]
        refine wq_v 107 [_] d189_104 rfl rfl m66 rfl rfl (Nat.le_of_ble_eq_true rfl) rfl (ck66 (cr_S h) (by omega) ?_)
        refine wq_a 108 d189_107 rfl rfl ?_
        refine wq_l 109 d189_108 rfl rfl rfl rfl ?_
        refine wq_gr (ci := 9) (j := 0) (q := 3) 112 d189_109 rfl rfl rfl rfl ?_
        refine wq_l 113 d189_112 rfl rfl rfl rfl ?_
        refine wq_k 114 2 d189_113 (by decide) rfl ?_
        refine wq_a 115 d189_114 rfl rfl ?_
        rw [s2]
        refine wq_v 118 [_] d189_115 rfl rfl m66 rfl rfl (Nat.le_of_ble_eq_true rfl) rfl (ck66 (cr_S h) (by omega) ?_)
        refine wq_a 119 d189_118 rfl rfl ?_
        refine wq_l 121 d189_119 rfl rfl rfl rfl ?_
        refine wq_a 122 d189_121 rfl rfl ?_
        refine wq_vs 125 [_, _, _] d189_122 rfl rfl m190 rfl (Nat.le_of_ble_eq_true rfl) rfl (sp190 (lg_32 _).1 (lg_32 _).1 (lg_32 _).1 (fun r er => ?_))
        rw [(lg_32 _).2, (lg_32 _).2, (lg_32 _).2] at er
        refine wq_cl 128 d189_125 rfl rfl ?_
        refine wq_a 129 d189_128 rfl rfl ?_
        refine wq_b 136 132 d189_129 rfl (by decide) rfl (fun c129 => ?_) (fun c129 => ?_)
        · -- pc 136
          refine wq_k 137 0 d189_136 (by decide) rfl ?_
          refine wq_ri d189_137 (rfl) ?_
          refine hb (LC.mpr (Or.inr (Or.inr ?_)))
          rw [lc_gt, er] at c129
          exact c129
        · -- pc 132
          refine wq_k 133 1 d189_132 (by decide) rfl ?_
          refine wq_g 137 d189_133 (by decide) ?_
          refine wq_ri d189_137 (rfl) ?_
          refine hg (fun z => ?_)
          rw [lc_gt, er] at c129
          rcases LC.mp z with w | w | w
          · exact hno' w
          · exact c94 ((i_eq _ _).mpr w)
          · exact c129 w
    refine wq_m m189 (Nat.le_of_ble_eq_true rfl) (by decide) rfl ?_
    refine wq_l 1 d189_0 rfl rfl rfl rfl ?_
    refine wq_k 2 1 d189_1 (by decide) rfl ?_
    refine wq_a 3 d189_2 rfl rfl ?_
    rw [nI_1]
    refine wq_s 4 d189_3 rfl rfl (Nat.le_of_ble_eq_true rfl) rfl rfl ?_
    refine wq_l 5 d189_4 rfl rfl rfl rfl ?_
    refine wq_gr (ci := 9) (j := 0) (q := 3) 8 d189_5 rfl rfl rfl rfl ?_
    refine wq_l 9 d189_8 rfl rfl rfl rfl ?_
    refine wq_v 12 [_] d189_9 rfl rfl m63 rfl rfl (Nat.le_of_ble_eq_true rfl) rfl (ck63 (cr_S h) (by omega) ?_)
    refine wq_s 14 d189_12 rfl rfl (Nat.le_of_ble_eq_true rfl) rfl rfl ?_
    exact cr189l (mm := i + 1 + 3) hG h ht m4 z1 m3 hbad (fin _) (3) (i + 1) (by omega) (by omega) (by omega) (fun j a b => m2 j (by omega) (by omega)) (fun j a b => by omega)
theorem cr188 {d : Nat} {l : List pg_N} {NN nx : Nat} {σ0 σ : pm_S} {A : rl_A} {Q : Option Value → pm_S → Prop} {i : Nat} (hG : lg_G l NN) (h : cr_I l NN σ0 σ nx A) (hp : pv_B A.1) (hB : A.1 ≠ []) (hs : rl_setl A) (hi : i < l.length) (hn : i < nx) (hk : rl_k l i = 19) (hx : 0 ≤ (rl_v l i).toInt ∧ (rl_v l i).toInt < NN) (hQ : ∀ σ' A', cr_I l NN σ0 σ' nx A' → ((rl_for l A i).1 = 0 → A' = (rl_for l A i).2) → Q (some (.int (nI (rl_for l A i).1))) σ') : pm_call pm_Y0 (d + 4) 188 [.ref 9, .int (nI i)] σ Q := by
  rw [rl_for_u] at hQ
  have ha := rl_asgl (l := l) (A := A) (i := i) (x := rl_v l i)
  refine wq_m m188 (Nat.le_of_ble_eq_true rfl) (by decide) rfl ?_
  refine wq_l 1 d188_0 rfl rfl rfl rfl ?_
  refine wq_gr (ci := 9) (j := 0) (q := 3) 4 d188_1 rfl rfl rfl rfl ?_
  refine wq_l 5 d188_4 rfl rfl rfl rfl ?_
  refine wq_v 8 [_] d188_5 rfl rfl m66 rfl rfl (Nat.le_of_ble_eq_true rfl) rfl (ck66 (cr_S h) (by omega) ?_)
  refine wq_s 9 d188_8 rfl rfl (Nat.le_of_ble_eq_true rfl) rfl rfl ?_
  refine wq_l 10 d188_9 rfl rfl rfl rfl ?_
  refine wq_l 11 d188_10 rfl rfl rfl rfl ?_
  refine wq_v 14 [_] d188_11 rfl rfl m183 rfl rfl (Nat.le_of_ble_eq_true rfl) rfl (cr183 h hB hx (fun e11 => ?_) (fun i11 o11 v11 e11 f11 => ?_))
  · -- fork 11
    refine wq_s 15 d188_14 rfl rfl (Nat.le_of_ble_eq_true rfl) rfl rfl ?_
    refine wq_l 16 d188_15 rfl rfl rfl rfl ?_
    refine wq_k 17 (-1) d188_16 (by decide) rfl ?_
    refine wq_b 23 20 d188_17 rfl (by decide) rfl (fun c17 => absurd c17 (fun z => z rfl)) (fun c17 => ?_)
    refine wq_k 22 20 d188_20 (by decide) rfl ?_
    refine wq_ri d188_22 (rfl) ?_
    rw [rl_srn e11, if_pos (by decide)] at hQ
    exact hQ _ _ h (fun z => absurd (show (20 : Nat) = 0 from z) (by decide))
  · -- fork 11
    have hm11 := List.mem_of_find?_eq_some e11
    have hi11 : i11 < 4128 := by have := cv_lt f11; have := (h).2.2.2.2.2.1.1; omega
    refine wq_s 15 d188_14 rfl rfl (Nat.le_of_ble_eq_true rfl) rfl rfl ?_
    refine wq_l 16 d188_15 rfl rfl rfl rfl ?_
    refine wq_k 17 (-1) d188_16 (by decide) rfl ?_
    refine wq_b 23 20 d188_17 rfl (by decide) rfl (fun c17 => ?_) (fun c17 => absurd (hp_ne (by omega)) c17)
    refine wq_l 24 d188_23 rfl rfl rfl rfl ?_
    refine wq_gr (ci := 9) (j := 2) (q := 6) 27 d188_24 rfl rfl rfl rfl ?_
    refine wq_l 28 d188_27 rfl rfl rfl rfl ?_
    refine wq_v 31 [_] d188_28 rfl rfl m135 rfl rfl (Nat.le_of_ble_eq_true rfl) rfl (cf135 (h).2.2.2.2.2.1 (f11) (hs _ hm11) ?_)
    refine wq_k 33 8 d188_31 (by decide) rfl ?_
    refine wq_b 39 36 d188_33 rfl (by decide) rfl (fun c33 => ?_) (fun c33 => ?_)
    · -- pc 39
      refine wq_l 40 d188_39 rfl rfl rfl rfl ?_
      refine wq_gr (ci := 9) (j := 2) (q := 6) 43 d188_40 rfl rfl rfl rfl ?_
      refine wq_l 44 d188_43 rfl rfl rfl rfl ?_
      refine wq_v 47 [_] d188_44 rfl rfl m136 rfl rfl (Nat.le_of_ble_eq_true rfl) rfl (cf136 h.2.2.2.2.2.1 f11 (hs _ hm11) ?_)
      have ty11 := ((pv_cur hp hB).2.2.2.2.1 _ hm11).2.2.1 (by rw [rl_s8 (s := 0) (by have := ((pv_cur hp hB).2.2.2.2.1 _ hm11).1; omega) (by decide) c33]; decide)
      rw [rl_sr0 e11 (rl_s8 (s := 0) (by have := ((pv_cur hp hB).2.2.2.2.1 _ hm11).1; omega) (by decide) c33), if_neg (by decide), rl_vrs e11] at hQ
      refine wq_s 49 d188_47 rfl rfl (Nat.le_of_ble_eq_true rfl) rfl rfl ?_
      refine wq_l 51 d188_49 rfl rfl rfl rfl ?_
      refine wq_vs 54 [_] d188_51 rfl rfl m168 rfl (Nat.le_of_ble_eq_true rfl) rfl (sp168 ?_)
      refine wq_b 60 57 d188_54 rfl (by decide) rfl (fun c54 => ?_) (fun c54 => ?_)
      · -- pc 60
        have f54 := b2n c54
        have t54 : v11.2.2.1 = 1 ∨ v11.2.2.1 = 2 := of_decide_eq_true f54
        rw [if_neg (fun w => by rw [w] at t54; exact absurd t54 (by decide))] at hQ
        refine wq_l 61 d188_60 rfl rfl rfl rfl ?_
        refine wq_l 62 d188_61 rfl rfl rfl rfl ?_
        refine wq_l 63 d188_62 rfl rfl rfl rfl ?_
        refine wq_v 66 [_, _] d188_63 rfl rfl m182 rfl rfl (Nat.le_of_ble_eq_true rfl) rfl (cr182 hG h hB hs hi hn hx ?_)
        refine wq_s 68 d188_66 rfl rfl (Nat.le_of_ble_eq_true rfl) rfl rfl ?_
        refine wq_l 70 d188_68 rfl rfl rfl rfl ?_
        refine wq_b 76 73 d188_70 rfl (by decide) rfl (fun c70 => ?_) (fun c70 => ?_)
        · -- pc 76
          have z70 : rl_asg l A i (rl_v l i) = 0 := hp_inj (by omega) (by omega) c70
          rw [if_neg (fun z => z z70)] at hQ
          refine wq_l 77 d188_76 rfl rfl rfl rfl ?_
          refine wq_gr (ci := 9) (j := 0) (q := 3) 80 d188_77 rfl rfl rfl rfl ?_
          refine wq_l 81 d188_80 rfl rfl rfl rfl ?_
          refine wq_l 82 d188_81 rfl rfl rfl rfl ?_
          refine wq_gr (ci := 9) (j := 2) (q := 6) 85 d188_82 rfl rfl rfl rfl ?_
          refine wq_l 86 d188_85 rfl rfl rfl rfl ?_
          refine wq_v 89 [_] d188_86 rfl rfl m137 rfl rfl (Nat.le_of_ble_eq_true rfl) rfl (cf137 (h).2.2.2.2.2.1 (f11) (hs _ hm11) ?_)
          refine wq_v 92 [_, _] d188_89 rfl rfl m67 rfl rfl (Nat.le_of_ble_eq_true rfl) rfl (ck67 h (by omega) (fun σ89 h89 => ?_))
          refine wq_l 93 d188_92 rfl rfl rfl rfl ?_
          refine wq_l 94 d188_93 rfl rfl rfl rfl ?_
          refine wq_l 96 d188_94 rfl rfl rfl rfl ?_
          refine wq_v 99 [_, _] d188_96 rfl rfl m189 rfl rfl (Nat.le_of_ble_eq_true rfl) rfl (cr189 hG h89 hi hk t54 (fun e96 => ?_) (fun e96 => ?_))
          · -- fork 96
            rw [if_pos e96] at hQ
            refine wq_b 106 102 d188_99 rfl (by decide) rfl (fun c99 => ?_) (fun c99 => absurd (rfl) c99)
            refine wq_k 108 36 d188_106 (by decide) rfl ?_
            refine wq_ri d188_108 (rfl) ?_
            exact hQ _ _ h89 (fun z => absurd (show (36 : Nat) = 0 from z) (by decide))
          · -- fork 96
            rw [if_neg e96] at hQ
            refine wq_b 106 102 d188_99 rfl (by decide) rfl (fun c99 => absurd c99 (by decide)) (fun c99 => ?_)
            refine wq_k 103 0 d188_102 (by decide) rfl ?_
            refine wq_g 108 d188_103 (by decide) ?_
            refine wq_ri d188_108 (rfl) ?_
            exact hQ _ _ h89 (fun _ => rfl)
        · -- pc 73
          refine wq_l 75 d188_73 rfl rfl rfl rfl ?_
          refine wq_ri d188_75 (rfl) ?_
          rw [if_pos (fun z => c70 (by rw [z]; rfl))] at hQ
          exact hQ _ _ h (fun z => absurd z (fun z => c70 (by rw [show rl_asg l A i (rl_v l i) = 0 from z]; rfl)))
      · -- pc 57
        have f54 := b2y c54
        refine wq_k 59 22 d188_57 (by decide) rfl ?_
        refine wq_ri d188_59 (rfl) ?_
        rw [if_pos (by rcases ty11 with w | w | w; exact w; all_goals (rw [w] at f54; exact absurd f54 (by decide)))] at hQ
        exact hQ _ _ h (fun z => absurd (show (22 : Nat) = 0 from z) (by decide))
    · -- pc 36
      refine wq_k 38 21 d188_36 (by decide) rfl ?_
      refine wq_ri d188_38 (rfl) ?_
      rw [rl_sr1 e11 (fun z => c33 (by rw [z]; rfl)), if_pos (by decide)] at hQ
      exact hQ _ _ h (fun z => absurd (show (21 : Nat) = 0 from z) (by decide))
