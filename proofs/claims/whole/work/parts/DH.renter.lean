theorem re266n {d : Nat} {l : List pg_N} {a : Nat → Nat} {R : Int32 → Int32 → Prop} {σ0 σ : pm_S} {A : rl_A} {Q : Option Value → pm_S → Prop} {u0 i : Nat} (h : rr_I l a R σ0 σ false u0 A) (hp : pv_B A.1) (i0 : i < l.length) (hk : rp_nk (rl_k l i) = true) (h11 : rl_taken A (rl_v l i) = true → Q (some (.int 11)) σ) (h0 : rl_taken A (rl_v l i) = false → pm_WP pm_Y0 (pm_call pm_Y0 (d + 2)) 10 prog_14_method_84_code (some FieldType.int) Q 64 [.ref 10, .int (nI (a i)), .int (σ.2.2 51 (a i))] [] σ) : pm_WP pm_Y0 (pm_call pm_Y0 (d + 2)) 10 prog_14_method_84_code (some FieldType.int) Q 18 [.ref 10, .int (nI (a i)), pm_jk] [] σ := by
  have e35 := h.2.2.2.2.1.2.1
  have hB9 := h.2.2.2.2.1.1
  have bi := rt_b (rr_T h) i0
  have em := rt_m (rr_T h) i0
  have hR := rt_R (rr_T h) i0 hk
  obtain ⟨r1, r2, r3, r4⟩ := (rr_R h).2 _ _ hR
  refine wq_l 19 d266_18 rfl rfl rfl rfl ?_
  refine wq_gr (ci := 10) (j := 18) (q := 51) 22 d266_19 rfl rfl rfl rfl ?_
  refine wq_l 23 d266_22 rfl rfl rfl rfl ?_
  refine wq_al 24 d266_23 rfl rfl rfl (bi) ?_
  rw [em]
  refine wq_s 25 d266_24 rfl rfl (Nat.le_of_ble_eq_true rfl) rfl rfl ?_
  refine wq_l 26 d266_25 rfl rfl rfl rfl ?_
  refine wq_gr (ci := 10) (j := 13) (q := 47) 29 d266_26 rfl rfl rfl rfl ?_
  refine wq_l 30 d266_29 rfl rfl rfl rfl ?_
  refine wq_ll 31 d266_30 rfl rfl (vp_in_iff.mpr ⟨r2, r3⟩) ?_
  refine wq_vs 34 [_] d266_31 rfl rfl m268 rfl (Nat.le_of_ble_eq_true rfl) rfl (sp268 (v := (rl_v l i).toNatClampNeg) r4 ?_)
  refine wq_b 61 37 d266_34 rfl (by decide) rfl (fun c34 => ?_) (fun c34 => ?_)
  · -- pc 61
    refine wq_k 63 11 d266_61 (by decide) rfl ?_
    refine wq_ri d266_63 (rfl) ?_
    exact h11 (by unfold rl_taken; rw [(rn_sb r1).mp ((rn_ge (fun z => by omega)).mp c34), Bool.true_or, Bool.true_or])
  · -- pc 37
    refine wq_l 38 d266_37 rfl rfl rfl rfl ?_
    refine wq_gr (ci := 10) (j := 13) (q := 47) 41 d266_38 rfl rfl rfl rfl ?_
    refine wq_l 42 d266_41 rfl rfl rfl rfl ?_
    refine wq_ll 43 d266_42 rfl rfl (vp_in_iff.mpr ⟨r2, r3⟩) ?_
    refine wq_vs 46 [_] d266_43 rfl rfl m269 rfl (Nat.le_of_ble_eq_true rfl) rfl (sp269 (v := (rl_v l i).toNatClampNeg) r4 ?_)
    refine wq_b 61 49 d266_46 rfl (by decide) rfl (fun c46 => ?_) (fun c46 => ?_)
    · -- pc 61
      refine wq_k 63 11 d266_61 (by decide) rfl ?_
      refine wq_ri d266_63 (rfl) ?_
      exact h11 (by unfold rl_taken; rw [(rn_fn r1).mp ((rn_ge (fun z => by omega)).mp c46), Bool.or_true, Bool.true_or])
    · -- pc 49
      refine wq_l 50 d266_49 rfl rfl rfl rfl ?_
      refine wq_l 51 d266_50 rfl rfl rfl rfl ?_
      refine wq_l 52 d266_51 rfl rfl rfl rfl ?_
      refine wq_gf (ci := 10) (j := 35) (f := 0) (v := .int (nI A.1.length)) 55 d266_52 rfl rfl rfl (congrArg Value.int (e35)) rfl ?_
      refine wq_v 58 [_, _] d266_55 rfl rfl m270 rfl rfl (Nat.le_of_ble_eq_true rfl) rfl (re270a h hp hR ?_)
      refine wq_b 64 61 d266_58 rfl (by decide) rfl (fun c58 => ?_) (fun c58 => ?_)
      · -- pc 64
        refine h0 (Bool.eq_false_iff.mpr (fun z => ?_))
        unfold rl_taken at z
        rw [Bool.or_eq_true, Bool.or_eq_true] at z
        rcases z with (z | z) | z
        · exact c34 ((rn_ge (fun z => by omega)).mpr ((rn_sb r1).mpr z))
        · exact c46 ((rn_ge (fun z => by omega)).mpr ((rn_fn r1).mpr z))
        · exact absurd c58 (Int32.not_lt.mpr ((rn_ow hB9).mpr z))
      · -- pc 61
        refine wq_k 63 11 d266_61 (by decide) rfl ?_
        refine wq_ri d266_63 (rfl) ?_
        exact h11 (by unfold rl_taken; rw [(rn_ow hB9).mp (Int32.not_lt.mp c58), Bool.or_true])
theorem re266h {d : Nat} {l : List pg_N} {a : Nat → Nat} {R : Int32 → Int32 → Prop} {σ0 σ : pm_S} {A : rl_A} {Q : Option Value → pm_S → Prop} {u0 i : Nat} (h : rr_I l a R σ0 σ false u0 A) (hp : pv_B A.1) (h10 : A.1 ≠ [] → (rl_cur A).1 = 3 → Q (some (.int 10)) σ) (hg : ¬ (A.1 ≠ [] ∧ (rl_cur A).1 = 3) → pm_WP pm_Y0 (pm_call pm_Y0 (d + 2)) 10 prog_14_method_84_code (some FieldType.int) Q 18 [.ref 10, .int (nI (a i)), pm_jk] [] σ) : pm_call pm_Y0 (d + 3) 266 [.ref 10, .int (nI (a i))] σ Q := by
  have e35 := h.2.2.2.2.1.2.1
  have hB9 := h.2.2.2.2.1.1
  have eb := nI_toInt (n := A.1.length) (by omega)
  by_cases hB : A.1 = []
  · have hl : A.1.length = 0 := by rw [hB]; rfl
    refine wq_m m266 (Nat.le_of_ble_eq_true rfl) (by decide) rfl ?_
    refine wq_l 1 d266_0 rfl rfl rfl rfl ?_
    refine wq_gf (ci := 10) (j := 35) (f := 0) (v := .int (nI A.1.length)) 4 d266_1 rfl rfl rfl (congrArg Value.int (e35)) rfl ?_
    refine wq_b 18 7 d266_4 rfl (by decide) rfl (fun c4 => ?_) (fun c4 => absurd (by rw [i_le, eb]; show _ ≤ (0 : Int); omega) c4)
    exact hg (fun z => z.1 hB)
  · have hl := rl_len hB
    have kc := (pv_cur hp hB).1
    refine wq_m m266 (Nat.le_of_ble_eq_true rfl) (by decide) rfl ?_
    refine wq_l 1 d266_0 rfl rfl rfl rfl ?_
    refine wq_gf (ci := 10) (j := 35) (f := 0) (v := .int (nI A.1.length)) 4 d266_1 rfl rfl rfl (congrArg Value.int (e35)) rfl ?_
    refine wq_b 18 7 d266_4 rfl (by decide) rfl (fun c4 => absurd c4 (by rw [i_le, eb]; show ¬ _ ≤ (0 : Int); omega)) (fun c4 => ?_)
    refine wq_l 8 d266_7 rfl rfl rfl rfl ?_
    refine wq_v 11 [] d266_8 rfl rfl m267 rfl rfl (Nat.le_of_ble_eq_true rfl) rfl (re267 h hB ?_)
    refine wq_k 12 3 d266_11 (by decide) rfl ?_
    refine wq_b 18 15 d266_12 rfl (by decide) rfl (fun c12 => ?_) (fun c12 => ?_)
    · -- pc 18
      exact hg (fun z => c12 (by rw [z.2]; rfl))
    · -- pc 15
      refine wq_k 17 10 d266_15 (by decide) rfl ?_
      refine wq_ri d266_17 (rfl) ?_
      exact h10 hB (hp_inj (b := 3) (by omega) (by decide) (Classical.not_not.mp c12))
