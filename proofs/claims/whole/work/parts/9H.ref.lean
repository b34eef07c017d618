theorem d245_0 : decode prog_14_method_56_code 0 = .ok (.aload_n 0, 1) := by decide +kernel
theorem d245_1 : decode prog_14_method_56_code 1 = .ok (.iconst 0, 1) := by decide +kernel
theorem d245_2 : decode prog_14_method_56_code 2 = .ok (.putfield 385, 3) := by decide +kernel
theorem d245_5 : decode prog_14_method_56_code 5 = .ok (.aload_n 0, 1) := by decide +kernel
theorem d245_6 : decode prog_14_method_56_code 6 = .ok (.iconst 0, 1) := by decide +kernel
theorem d245_7 : decode prog_14_method_56_code 7 = .ok (.putfield 388, 3) := by decide +kernel
theorem d245_10 : decode prog_14_method_56_code 10 = .ok (.aload_n 0, 1) := by decide +kernel
theorem d245_11 : decode prog_14_method_56_code 11 = .ok (.iconst 0, 1) := by decide +kernel
theorem d245_12 : decode prog_14_method_56_code 12 = .ok (.putfield 415, 3) := by decide +kernel
theorem d245_15 : decode prog_14_method_56_code 15 = .ok (.iconst 0, 1) := by decide +kernel
theorem d245_16 : decode prog_14_method_56_code 16 = .ok (.istore_n 1, 1) := by decide +kernel
theorem d245_17 : decode prog_14_method_56_code 17 = .ok (.iload_n 1, 1) := by decide +kernel
theorem d245_18 : decode prog_14_method_56_code 18 = .ok (.iconst 2, 1) := by decide +kernel
theorem d245_19 : decode prog_14_method_56_code 19 = .ok (.if_icmp .ge 58, 3) := by decide +kernel
theorem d245_22 : decode prog_14_method_56_code 22 = .ok (.aload_n 0, 1) := by decide +kernel
theorem d245_23 : decode prog_14_method_56_code 23 = .ok (.getfield 135, 3) := by decide +kernel
theorem d245_26 : decode prog_14_method_56_code 26 = .ok (.ifCond .ne 51, 3) := by decide +kernel
theorem d245_29 : decode prog_14_method_56_code 29 = .ok (.iload_n 1, 1) := by decide +kernel
theorem d245_30 : decode prog_14_method_56_code 30 = .ok (.ifCond .ne 7, 3) := by decide +kernel
theorem d245_33 : decode prog_14_method_56_code 33 = .ok (.iconst 1, 1) := by decide +kernel
theorem d245_34 : decode prog_14_method_56_code 34 = .ok (.goto 4, 3) := by decide +kernel
theorem d245_37 : decode prog_14_method_56_code 37 = .ok (.iconst 0, 1) := by decide +kernel
theorem d245_38 : decode prog_14_method_56_code 38 = .ok (.istore_n 2, 1) := by decide +kernel
theorem d245_39 : decode prog_14_method_56_code 39 = .ok (.iload_n 2, 1) := by decide +kernel
theorem d245_40 : decode prog_14_method_56_code 40 = .ok (.ifCond .eq 18, 3) := by decide +kernel
theorem d245_43 : decode prog_14_method_56_code 43 = .ok (.aload_n 0, 1) := by decide +kernel
theorem d245_44 : decode prog_14_method_56_code 44 = .ok (.getfield 135, 3) := by decide +kernel
theorem d245_47 : decode prog_14_method_56_code 47 = .ok (.ifCond .ne 11, 3) := by decide +kernel
theorem d245_50 : decode prog_14_method_56_code 50 = .ok (.aload_n 0, 1) := by decide +kernel
theorem d245_51 : decode prog_14_method_56_code 51 = .ok (.invokevirtual 418, 3) := by decide +kernel
theorem d245_54 : decode prog_14_method_56_code 54 = .ok (.istore_n 2, 1) := by decide +kernel
theorem d245_55 : decode prog_14_method_56_code 55 = .ok (.goto (-16), 3) := by decide +kernel
theorem d245_58 : decode prog_14_method_56_code 58 = .ok (.aload_n 0, 1) := by decide +kernel
theorem d245_59 : decode prog_14_method_56_code 59 = .ok (.getfield 135, 3) := by decide +kernel
theorem d245_62 : decode prog_14_method_56_code 62 = .ok (.ifCond .ne 10, 3) := by decide +kernel
theorem d245_65 : decode prog_14_method_56_code 65 = .ok (.aload_n 0, 1) := by decide +kernel
theorem d245_66 : decode prog_14_method_56_code 66 = .ok (.invokevirtual 422, 3) := by decide +kernel
theorem d245_69 : decode prog_14_method_56_code 69 = .ok (.goto 4, 3) := by decide +kernel
theorem d245_72 : decode prog_14_method_56_code 72 = .ok (.iconst 2, 1) := by decide +kernel
theorem d245_73 : decode prog_14_method_56_code 73 = .ok (.istore_n 1, 1) := by decide +kernel
theorem d245_74 : decode prog_14_method_56_code 74 = .ok (.goto (-57), 3) := by decide +kernel
theorem d245_77 : decode prog_14_method_56_code 77 = .ok (.aload_n 0, 1) := by decide +kernel
theorem d245_78 : decode prog_14_method_56_code 78 = .ok (.dup, 1) := by decide +kernel
theorem d245_79 : decode prog_14_method_56_code 79 = .ok (.getfield 343, 3) := by decide +kernel
theorem d245_82 : decode prog_14_method_56_code 82 = .ok (.aload_n 0, 1) := by decide +kernel
theorem d245_83 : decode prog_14_method_56_code 83 = .ok (.getfield 415, 3) := by decide +kernel
theorem d245_86 : decode prog_14_method_56_code 86 = .ok (.isub, 1) := by decide +kernel
theorem d245_87 : decode prog_14_method_56_code 87 = .ok (.putfield 343, 3) := by decide +kernel
theorem d245_90 : decode prog_14_method_56_code 90 = .ok (.aload_n 0, 1) := by decide +kernel
theorem d245_91 : decode prog_14_method_56_code 91 = .ok (.getfield 135, 3) := by decide +kernel
theorem d245_94 : decode prog_14_method_56_code 94 = .ok (.ifCond .ne 12, 3) := by decide +kernel
theorem d245_97 : decode prog_14_method_56_code 97 = .ok (.aload_n 0, 1) := by decide +kernel
theorem d245_98 : decode prog_14_method_56_code 98 = .ok (.getfield 62, 3) := by decide +kernel
theorem d245_101 : decode prog_14_method_56_code 101 = .ok (.iconst 0, 1) := by decide +kernel
theorem d245_102 : decode prog_14_method_56_code 102 = .ok (.iaload, 1) := by decide +kernel
theorem d245_103 : decode prog_14_method_56_code 103 = .ok (.goto 4, 3) := by decide +kernel
theorem d245_106 : decode prog_14_method_56_code 106 = .ok (.iconst 0, 1) := by decide +kernel
theorem d245_107 : decode prog_14_method_56_code 107 = .ok (.ireturn, 1) := by decide +kernel
theorem m245 : pm_m 245 = some (⟨"TypeRulesModel", "expression", "()I"⟩, prog_14_method_56_code, 3, (some FieldType.int), 10, 0, 11) := rfl
theorem d244_0 : decode prog_14_method_57_code 0 = .ok (.aload_n 0, 1) := by decide +kernel
theorem d244_1 : decode prog_14_method_57_code 1 = .ok (.invokevirtual 425, 3) := by decide +kernel
theorem d244_4 : decode prog_14_method_57_code 4 = .ok (.istore_n 2, 1) := by decide +kernel
theorem d244_5 : decode prog_14_method_57_code 5 = .ok (.aload_n 0, 1) := by decide +kernel
theorem d244_6 : decode prog_14_method_57_code 6 = .ok (.getfield 135, 3) := by decide +kernel
theorem d244_9 : decode prog_14_method_57_code 9 = .ok (.ifCond .ne 9, 3) := by decide +kernel
theorem d244_12 : decode prog_14_method_57_code 12 = .ok (.aload_n 0, 1) := by decide +kernel
theorem d244_13 : decode prog_14_method_57_code 13 = .ok (.iload_n 1, 1) := by decide +kernel
theorem d244_14 : decode prog_14_method_57_code 14 = .ok (.iload_n 2, 1) := by decide +kernel
theorem d244_15 : decode prog_14_method_57_code 15 = .ok (.invokevirtual 328, 3) := by decide +kernel
theorem d244_18 : decode prog_14_method_57_code 18 = .ok (.return_, 1) := by decide +kernel
theorem m244 : pm_m 244 = some (⟨"TypeRulesModel", "addExpression", "(I)V"⟩, prog_14_method_57_code, 3, none, 10, 1, 11) := rfl
/-! an expression -/
theorem xm_rd {T : pg_T} : ∀ (N : Nat) (x : xm_S), pg_dead T x.2.1 → (xm_run T N x).2 = x.2
  | 0, _, _ => rfl
  | N + 1, x, h => by
    have e : xm_step T x = (2, x.2) := if_pos (Or.inr h)
    show (xm_run T N (xm_step T x)).2 = _
    rw [e]
    exact xm_rd N (2, x.2) h
theorem xm_r2 {T : pg_T} : ∀ (N : Nat) (x : xm_S), x.1 = 2 → xm_run T N x = x
  | 0, _, _ => rfl
  | N + 1, x, h => by
    have e : xm_step T x = (2, x.2) := if_pos (Or.inl h)
    show xm_run T N (xm_step T x) = _
    rw [e, xm_r2 N _ rfl, ← h]
theorem xm_op_k {T : pg_T} {c : pg_C} {P : List xm_I} {O : List (List pg_N)} : (xm_op T c P O).1 ≤ 1 ∨ pg_dead T (xm_op T c P O).2.1 := by
  unfold xm_op xm_nm xm_gs
  repeat' split
  all_goals first | exact Or.inl (Nat.zero_le _) | exact Or.inl (Nat.le_refl _) | exact Or.inr pg_stopd
theorem xm_cl_k {T : pg_T} {c : pg_C} {P : List xm_I} {O : List (List pg_N)} : (xm_cl T c P O).1 ≤ 2 := by
  match P, O with
  | [], O => exact Nat.le_refl _
  | i :: P, [] => exact Nat.le_refl _
  | i :: P, v :: O =>
    rw [xm_cl_c]
    unfold xm_gs
    repeat' split
    all_goals first | exact Nat.zero_le _ | exact Nat.le_refl _ | (show 1 ≤ 2; decide)
theorem xm_bh_k {T : pg_T} {c : pg_C} {P : List xm_I} {O : List (List pg_N)} : (xm_bh T c P O).1 ≤ 2 := by
  cases e : pg_sign (pg_k T c) with
  | some g => rw [xm_bs e]; exact Nat.zero_le _
  | none => rw [xm_bn e]; exact xm_cl_k
theorem nI_sb (a b : Nat) : nI (a + b) - nI b = nI a := by
  have : nI (a + b) = nI a + nI b := Int32.ofNat_add a b
  rw [this, Int32.add_sub_cancel]
/-- the end -/
theorem xe_x77 {d : Nat} {Q : Option Value → pm_S → Prop} {t : Nat → Nat} {M n : Nat} {σ0 : pm_S} {h0 : rp_H} {o0 s : Nat} {σ : pm_S} {h : rp_H} {y : xm_S} {u : Int32} {v : Value} (X : xe_X t M n σ0 h0 o0 s σ h y) (hyl : pg_live (pt_T t M n) y.2.1 → ∃ c' l, y = (2, c', [], [l])) (hQd : pg_dead (pt_T t M n) y.2.1 → ∀ σ' h' r, rp_S t M n σ' y.2.1 h' (s + 3) → rp_W σ0 h0 σ' h' → Q (some (.int r)) σ') (hQl : ∀ c' l, y = (2, c', [], [l]) → pg_live (pt_T t M n) c' → ∀ σ' h' e, rp_S t M n σ' (c'.1, c'.2.1, o0) h' (s + 3) → rp_W σ0 h0 σ' h' → rp_O t M n σ0 h0 σ' h' e l → Q (some (.int (nI e))) σ') : pm_WP pm_Y0 (pm_call pm_Y0 (d + 11)) 10 prog_14_method_56_code (some FieldType.int) Q 77 [.ref 10, .int u, v] [] σ := by
  by_cases hd : pg_dead (pt_T t M n) y.2.1
  · have z := rp_d0 X.1 hd
    refine wq_l 78 d245_77 rfl rfl rfl rfl ?_
    refine wq_a 79 d245_78 rfl rfl ?_
    refine wq_gi (ci := 10) (j := 8) 82 d245_79 rfl rfl rfl rfl ?_
    refine wq_l 83 d245_82 rfl rfl rfl rfl ?_
    refine wq_gi (ci := 10) (j := 30) 86 d245_83 rfl rfl rfl rfl ?_
    refine wq_a 87 d245_86 rfl rfl ?_
    refine wq_pf (ci := 10) (j := 8) 90 d245_87 rfl rfl rfl ⟨rfl, rfl⟩ rfl ?_
    refine wq_l 91 d245_90 rfl rfl rfl rfl ?_
    refine wq_gi (ci := 10) (j := 6) 94 d245_91 rfl rfl rfl rfl ?_
    refine wq_b 106 97 d245_94 rfl (by decide) rfl (fun c94 => ?_) (fun c94 => absurd (z) c94)
    refine wq_k 107 0 d245_106 (by decide) rfl ?_
    refine wq_ri d245_107 (rfl) ?_
    exact hQd hd _ _ _ ⟨rp_opd0 X.1.1 hd, X.1.2.1, X.1.2.2⟩ (rp_Wk X.2.1 rp_pi8)
  · have hl := pg_ld.mp hd
    obtain ⟨c', l, rfl⟩ := hyl hl
    obtain ⟨b, B, ho, hk, hol⟩ := X.2.2 hl
    have ho : c'.2.2 = o0 + b + 0 := ho
    have hS : rp_S t M n σ c' h (s + 3) := X.1
    have hl : pg_live (pt_T t M n) c' := hl
    have z := rp_l0 hS hl
    have hL := hS.1.2.2.1 hl
    have h8 : σ.1 10 8 = nI (o0 + b) := by rw [hL.2.2.2.2.2.2.1, ho]; rfl
    have h60 := hL.2.2.2.2.2.2.2
    have h30 := (xe_Bl B).2.2.1
    obtain ⟨F, G, bS, bw, b30, bp, bP, bO, bv⟩ := B
    match F, bP with
    | [], _ =>
    match G, bO with
    | [A], ⟨⟨bn, bl⟩, _⟩ =>
    obtain ⟨x, la, rfl⟩ := xe_nn bn
    have h60a : σ.2.2 60 0 = nI x.2 := bp.2.2.2.1
    have w8 : rp_W σ0 h0 (pm_pi σ 10 8 (nI o0)) h := rp_Wk bw rp_pi8
    have v8 : xe_V t M n σ0 h0 (pm_pi σ 10 8 (nI o0)) h [] [x :: la] [] := xe_VK rp_pi8 bv
    refine wq_l 78 d245_77 rfl rfl rfl rfl ?_
    refine wq_a 79 d245_78 rfl rfl ?_
    refine wq_gi (ci := 10) (j := 8) 82 d245_79 rfl rfl rfl rfl ?_
    rw [h8]
    refine wq_l 83 d245_82 rfl rfl rfl rfl ?_
    refine wq_gi (ci := 10) (j := 30) 86 d245_83 rfl rfl rfl rfl ?_
    rw [h30]
    refine wq_a 87 d245_86 rfl rfl ?_
    rw [nI_sb]
    refine wq_pf (ci := 10) (j := 8) 90 d245_87 rfl rfl rfl ⟨rfl, rfl⟩ rfl ?_
    refine wq_l 91 d245_90 rfl rfl rfl rfl ?_
    refine wq_gi (ci := 10) (j := 6) 94 d245_91 rfl rfl rfl rfl ?_
    refine wq_b 106 97 d245_94 rfl (by decide) rfl (fun c94 => absurd c94 (fun y => y z)) (fun c94 => ?_)
    refine wq_l 98 d245_97 rfl rfl rfl rfl ?_
    refine wq_gr (ci := 10) (j := 28) (q := 60) 101 d245_98 rfl rfl rfl rfl ?_
    refine wq_k 102 0 d245_101 (by decide) rfl ?_
    refine wq_al 103 d245_102 rfl rfl rfl (vp_in_iff.mpr (by decide)) ?_
    rw [show (pm_pi σ 10 8 (nI o0)).2.2 60 (0 : Int32).toNatClampNeg = nI x.2 from h60a]
    refine wq_g 107 d245_103 (by decide) ?_
    refine wq_ri d245_107 (rfl) ?_
    exact hQl c' l rfl hl _ _ _ ⟨rp_opn0 hS.1 (by omega) hl, hS.2.1, hS.2.2⟩ w8 (xe_end w8 v8 bl)
theorem xe_x39 {d : Nat} {Q : Option Value → pm_S → Prop} {t : Nat → Nat} {M n : Nat} {σ0 : pm_S} {h0 : rp_H} {o0 s : Nat} {y : xm_S} (hN : rp_n t M n) (hs : s ≤ 2900) (hyl : pg_live (pt_T t M n) y.2.1 → ∃ c' l, y = (2, c', [], [l])) (hQd : pg_dead (pt_T t M n) y.2.1 → ∀ σ' h' r, rp_S t M n σ' y.2.1 h' (s + 3) → rp_W σ0 h0 σ' h' → Q (some (.int r)) σ') (hQl : ∀ c' l, y = (2, c', [], [l]) → pg_live (pt_T t M n) c' → ∀ σ' h' e, rp_S t M n σ' (c'.1, c'.2.1, o0) h' (s + 3) → rp_W σ0 h0 σ' h' → rp_O t M n σ0 h0 σ' h' e l → Q (some (.int (nI e))) σ') (hy : y.1 = 2) : ∀ (N : Nat) (x : xm_S) (σ : pm_S) (h : rp_H) (u : Int32), xe_X t M n σ0 h0 o0 s σ h x → (x.1 ≤ 1 ∨ pg_dead (pt_T t M n) x.2.1) → xm_run (pt_T t M n) N x = y → pm_WP pm_Y0 (pm_call pm_Y0 (d + 11)) 10 prog_14_method_56_code (some FieldType.int) Q 39 [.ref 10, .int u, .int (b2 (x.1 == 0))] [] σ := by
  have ed : ∀ (x : xm_S) N σ h, xe_X t M n σ0 h0 o0 s σ h x → pg_dead (pt_T t M n) x.2.1 → xm_run (pt_T t M n) N x = y → xe_X t M n σ0 h0 o0 s σ h y := fun x N σ h X hd e => by
    have e2 := xm_rd N x hd
    rw [e] at e2
    unfold xe_X
    rw [e2]
    exact ⟨X.1, X.2.1, fun z => absurd hd (pg_ld.mpr z)⟩
  have dead : ∀ (x : xm_S) N (σ : pm_S) h (u : Int32), xe_X t M n σ0 h0 o0 s σ h x → pg_dead (pt_T t M n) x.2.1 → xm_run (pt_T t M n) N x = y → pm_WP pm_Y0 (pm_call pm_Y0 (d + 11)) 10 prog_14_method_56_code (some FieldType.int) Q 39 [.ref 10, .int u, .int (b2 (x.1 == 0))] [] σ := by
    intro x N σ h u X hd e
    have z := rp_d0 X.1 hd
    have Y := ed x N σ h X hd e
    refine wq_l 40 d245_39 rfl rfl rfl rfl ?_
    refine wq_b 58 43 d245_40 rfl (by decide) rfl (fun c40 => ?_) (fun c40 => ?_)
    · -- pc 58
      refine wq_l 59 d245_58 rfl rfl rfl rfl ?_
      refine wq_gi (ci := 10) (j := 6) 62 d245_59 rfl rfl rfl rfl ?_
      refine wq_b 72 65 d245_62 rfl (by decide) rfl (fun c62 => ?_) (fun c62 => absurd (z) c62)
      refine wq_k 73 2 d245_72 (by decide) rfl ?_
      refine wq_s 74 d245_73 rfl rfl (Nat.le_of_ble_eq_true rfl) rfl rfl ?_
      refine wq_g 17 d245_74 (by decide) ?_
      refine wq_l 18 d245_17 rfl rfl rfl rfl ?_
      refine wq_k 19 2 d245_18 (by decide) rfl ?_
      refine wq_b 77 22 d245_19 rfl (by decide) rfl (fun c19 => ?_) (fun c19 => absurd (by decide) c19)
      exact xe_x77 Y hyl hQd hQl
    · -- pc 43
      refine wq_l 44 d245_43 rfl rfl rfl rfl ?_
      refine wq_gi (ci := 10) (j := 6) 47 d245_44 rfl rfl rfl rfl ?_
      refine wq_b 58 50 d245_47 rfl (by decide) rfl (fun c47 => ?_) (fun c47 => absurd (z) c47)
      refine wq_l 59 d245_58 rfl rfl rfl rfl ?_
      refine wq_gi (ci := 10) (j := 6) 62 d245_59 rfl rfl rfl rfl ?_
      refine wq_b 72 65 d245_62 rfl (by decide) rfl (fun c62 => ?_) (fun c62 => absurd (z) c62)
      refine wq_k 73 2 d245_72 (by decide) rfl ?_
      refine wq_s 74 d245_73 rfl rfl (Nat.le_of_ble_eq_true rfl) rfl rfl ?_
      refine wq_g 17 d245_74 (by decide) ?_
      refine wq_l 18 d245_17 rfl rfl rfl rfl ?_
      refine wq_k 19 2 d245_18 (by decide) rfl ?_
      refine wq_b 77 22 d245_19 rfl (by decide) rfl (fun c19 => ?_) (fun c19 => absurd (by decide) c19)
      exact xe_x77 Y hyl hQd hQl
  intro N
  induction N with
  | zero =>
    intro x σ h u X hx e
    by_cases hd : pg_dead (pt_T t M n) x.2.1
    · exact dead x 0 σ h u X hd e
    · exfalso
      have e : x = y := e
      rcases hx with z | z
      · rw [e] at z; omega
      · exact hd z
  | succ N ih =>
    intro x σ h u X hx e
    by_cases hd : pg_dead (pt_T t M n) x.2.1
    · exact dead x (N + 1) σ h u X hd e
    · have hl := pg_ld.mp hd
      have z := rp_l0 X.1 hl
      have hx := hx.resolve_right hd
      obtain ⟨k, c, P, O⟩ := x
      have e : xm_run (pt_T t M n) N (xm_step (pt_T t M n) (k, c, P, O)) = y := e
      have hx : k ≤ 1 := hx
      have hl : pg_live (pt_T t M n) c := hl
      by_cases hk : k = 0
      · subst hk
        rw [xm_s0 hl] at e
        refine wq_l 40 d245_39 rfl rfl rfl rfl ?_
        refine wq_b 58 43 d245_40 rfl (by decide) rfl (fun c40 => absurd c40 (by show ¬ (b2 true = 0); decide)) (fun c40 => ?_)
        refine wq_l 44 d245_43 rfl rfl rfl rfl ?_
        refine wq_gi (ci := 10) (j := 6) 47 d245_44 rfl rfl rfl rfl ?_
        refine wq_b 58 50 d245_47 rfl (by decide) rfl (fun c47 => absurd c47 (fun y => y z)) (fun c47 => ?_)
        refine wq_l 51 d245_50 rfl rfl rfl rfl ?_
        refine wq_v 54 [] d245_51 rfl rfl m246 rfl rfl (Nat.le_of_ble_eq_true rfl) rfl (xe246 hN hs hl X (fun σ1 h1 X1 => ?_))
        refine wq_s 55 d245_54 rfl rfl (Nat.le_of_ble_eq_true rfl) rfl rfl ?_
        refine wq_g 39 d245_55 (by decide) ?_
        exact ih _ _ _ _ X1 xm_op_k e
      · have hk : k = 1 := by omega
        subst hk
        rw [xm_s1 hl] at e
        have k2 := xm_bh_k (T := pt_T t M n) (c := c) (P := P) (O := O)
        refine wq_l 40 d245_39 rfl rfl rfl rfl ?_
        refine wq_b 58 43 d245_40 rfl (by decide) rfl (fun c40 => ?_) (fun c40 => absurd (by show b2 false = 0; decide) c40)
        refine wq_l 59 d245_58 rfl rfl rfl rfl ?_
        refine wq_gi (ci := 10) (j := 6) 62 d245_59 rfl rfl rfl rfl ?_
        refine wq_b 72 65 d245_62 rfl (by decide) rfl (fun c62 => absurd c62 (fun y => y z)) (fun c62 => ?_)
        refine wq_l 66 d245_65 rfl rfl rfl rfl ?_
        refine wq_v 69 [] d245_66 rfl rfl m250 rfl rfl (Nat.le_of_ble_eq_true rfl) rfl (xe250 hN hs hl X (fun σ1 h1 X1 => ?_))
        generalize xm_bh (pt_T t M n) c P O = x' at *
        have ek := nI_toInt (n := x'.1) (by omega)
        refine wq_g 73 d245_69 (by decide) ?_
        refine wq_s 74 d245_73 rfl rfl (Nat.le_of_ble_eq_true rfl) rfl rfl ?_
        refine wq_g 17 d245_74 (by decide) ?_
        refine wq_l 18 d245_17 rfl rfl rfl rfl ?_
        refine wq_k 19 2 d245_18 (by decide) rfl ?_
        refine wq_b 77 22 d245_19 rfl (by decide) rfl (fun c19 => ?_) (fun c19 => ?_)
        · -- pc 77
          first
            | (have q2 : x'.1 = 2 := by simp only [i_lt, i_le, i_eq, ne_eq, Int32.reduceToInt, b2_0, b2_1, decide_eq_true_eq, decide_eq_false_iff_not, Bool.not_eq_true, Bool.not_eq_false, ek] at c19; omega
               have ey := xm_r2 (T := pt_T t M n) N x' q2
               rw [e] at ey
               subst ey
               exact xe_x77 X1 hyl hQd hQl)
            | exact xe_x77 (ed x' N _ _ X1 (rp_dd X1.1 c26) e) hyl hQd hQl
        · -- pc 22
          refine wq_l 23 d245_22 rfl rfl rfl rfl ?_
          refine wq_gi (ci := 10) (j := 6) 26 d245_23 rfl rfl rfl rfl ?_
          refine wq_b 77 29 d245_26 rfl (by decide) rfl (fun c26 => ?_) (fun c26 => ?_)
          · -- pc 77
            first
              | (have q2 : x'.1 = 2 := by simp only [i_lt, i_le, i_eq, ne_eq, Int32.reduceToInt, b2_0, b2_1, decide_eq_true_eq, decide_eq_false_iff_not, Bool.not_eq_true, Bool.not_eq_false, ek] at c19; omega
                 have ey := xm_r2 (T := pt_T t M n) N x' q2
                 rw [e] at ey
                 subst ey
                 exact xe_x77 X1 hyl hQd hQl)
              | exact xe_x77 (ed x' N _ _ X1 (rp_dd X1.1 c26) e) hyl hQd hQl
          · -- pc 29
            refine wq_l 30 d245_29 rfl rfl rfl rfl ?_
            refine wq_b 37 33 d245_30 rfl (by decide) rfl (fun c30 => ?_) (fun c30 => ?_)
            · -- pc 37
              refine wq_k 38 0 d245_37 (by decide) rfl ?_
              refine wq_s 39 d245_38 rfl rfl (Nat.le_of_ble_eq_true rfl) rfl rfl ?_
              first
                | (have q2 : x'.1 = 0 := by simp only [i_lt, i_le, i_eq, ne_eq, Int32.reduceToInt, b2_0, b2_1, decide_eq_true_eq, decide_eq_false_iff_not, Bool.not_eq_true, Bool.not_eq_false, ek] at c30; omega
                   have ih' := ih x' σ1 h1 (nI x'.1) X1 (Or.inl (by omega)) e
                   rw [show b2 (x'.1 == 0) = 1 by rw [q2]; rfl] at ih'
                   exact ih')
                | (have q2 : ¬ x'.1 = 0 := by simp only [i_lt, i_le, i_eq, ne_eq, Int32.reduceToInt, b2_0, b2_1, decide_eq_true_eq, decide_eq_false_iff_not, Bool.not_eq_true, Bool.not_eq_false, ek] at c30; omega
                   have ih' := ih x' σ1 h1 (nI x'.1) X1 (Or.inl (by simp only [i_lt, i_le, i_eq, ne_eq, Int32.reduceToInt, b2_0, b2_1, decide_eq_true_eq, decide_eq_false_iff_not, Bool.not_eq_true, Bool.not_eq_false, ek] at c19; omega)) e
                   rw [show b2 (x'.1 == 0) = 0 by rw [show (x'.1 == 0) = false from by simpa using q2]; rfl] at ih'
                   exact ih')
            · -- pc 33
              refine wq_k 34 1 d245_33 (by decide) rfl ?_
              refine wq_g 38 d245_34 (by decide) ?_
              refine wq_s 39 d245_38 rfl rfl (Nat.le_of_ble_eq_true rfl) rfl rfl ?_
              first
                | (have q2 : x'.1 = 0 := by simp only [i_lt, i_le, i_eq, ne_eq, Int32.reduceToInt, b2_0, b2_1, decide_eq_true_eq, decide_eq_false_iff_not, Bool.not_eq_true, Bool.not_eq_false, ek] at c30; omega
                   have ih' := ih x' σ1 h1 (nI x'.1) X1 (Or.inl (by omega)) e
                   rw [show b2 (x'.1 == 0) = 1 by rw [q2]; rfl] at ih'
                   exact ih')
                | (have q2 : ¬ x'.1 = 0 := by simp only [i_lt, i_le, i_eq, ne_eq, Int32.reduceToInt, b2_0, b2_1, decide_eq_true_eq, decide_eq_false_iff_not, Bool.not_eq_true, Bool.not_eq_false, ek] at c30; omega
                   have ih' := ih x' σ1 h1 (nI x'.1) X1 (Or.inl (by simp only [i_lt, i_le, i_eq, ne_eq, Int32.reduceToInt, b2_0, b2_1, decide_eq_true_eq, decide_eq_false_iff_not, Bool.not_eq_true, Bool.not_eq_false, ek] at c19; omega)) e
                   rw [show b2 (x'.1 == 0) = 0 by rw [show (x'.1 == 0) = false from by simpa using q2]; rfl] at ih'
                   exact ih')
theorem xe_expr {t : Nat → Nat} {M n : Nat} (hN : rp_n t M n) {c : pg_C} (hc : pg_live (pt_T t M n) c) : (pg_dead (pt_T t M n) (pg_E (pt_T t M n) c).1 ∧ xm_no (pt_T t M n) (0, c, [], []) (pg_E (pt_T t M n) c).1) ∨ (pg_live (pt_T t M n) (pg_E (pt_T t M n) c).1 ∧ (pg_E (pt_T t M n) c).1.2.2 = c.2.2 ∧ ∃ c', xm_re (pt_T t M n) (0, c, [], []) (2, c', [], [(pg_E (pt_T t M n) c).2]) ∧ c'.1 = (pg_E (pt_T t M n) c).1.1 ∧ c'.2.1 = 0) := by
  have h1 := hN.1
  have h2 := hN.2.2.1
  have h3 := hN.2.2.2.1
  refine xm_expr (N := n - 1) (show n - 1 ≤ 8192 by omega) (fun j hj => ?_) hc
  by_cases q : j < n
  · have e : j = n - 1 := by omega
    rw [show (pt_T t M n).1 j = lx_k t M lx_ns j from if_pos q, e]
    exact hN.2.2.2.2.symm
  · exact Or.inl (if_neg q)
theorem rp245 {d : Nat} {Q : Option Value → pm_S → Prop} {t : Nat → Nat} {M n : Nat} {σ : pm_S} {h : rp_H} {c : pg_C} {s : Nat} (hN : rp_n t M n) (hs : s ≤ 2900) (hS : rp_S t M n σ c h s) (hQ : ∀ σ' h' e r, rp_S t M n σ' (pg_E (pt_T t M n) c).1 h' (s + 3) → rp_W σ h σ' h' → (σ'.1 10 6 = 0 → r = nI e ∧ rp_O t M n σ h σ' h' e (pg_E (pt_T t M n) c).2) → Q (some (.int r)) σ') : pm_call pm_Y0 (d + 12) 245 [.ref 10] σ Q := by
  have q0 : xe_q σ (pm_pi (pm_pi (pm_pi σ 10 27 0) 10 29 0) 10 30 0) := xe_qi (xe_qi (xe_qi xe_qr (by decide)) (by decide)) (by decide)
  have hS1 := xe_Sq q0 hS
  have hW1 : rp_W σ h (pm_pi (pm_pi (pm_pi σ 10 27 0) 10 29 0) 10 30 0) h := xe_Wq q0 rp_Wr
  have z6 : (pm_pi (pm_pi (pm_pi σ 10 27 0) 10 29 0) 10 30 0).1 10 6 = σ.1 10 6 := rfl
  by_cases hd : pg_dead (pt_T t M n) c
  · have z := rp_d0 hS hd
    have Y : xe_X t M n σ h c.2.2 s (pm_pi (pm_pi (pm_pi σ 10 27 0) 10 29 0) 10 30 0) h (2, c, [], []) := xe_Xd (rp_Se hS1 rfl (by omega)) hW1 hd
    refine wq_m m245 (Nat.le_of_ble_eq_true rfl) (by decide) rfl ?_
    refine wq_l 1 d245_0 rfl rfl rfl rfl ?_
    refine wq_k 2 0 d245_1 (by decide) rfl ?_
    refine wq_pf (ci := 10) (j := 27) 5 d245_2 rfl rfl rfl ⟨rfl, rfl⟩ rfl ?_
    refine wq_l 6 d245_5 rfl rfl rfl rfl ?_
    refine wq_k 7 0 d245_6 (by decide) rfl ?_
    refine wq_pf (ci := 10) (j := 29) 10 d245_7 rfl rfl rfl ⟨rfl, rfl⟩ rfl ?_
    refine wq_l 11 d245_10 rfl rfl rfl rfl ?_
    refine wq_k 12 0 d245_11 (by decide) rfl ?_
    refine wq_pf (ci := 10) (j := 30) 15 d245_12 rfl rfl rfl ⟨rfl, rfl⟩ rfl ?_
    refine wq_k 16 0 d245_15 (by decide) rfl ?_
    refine wq_s 17 d245_16 rfl rfl (Nat.le_of_ble_eq_true rfl) rfl rfl ?_
    refine wq_l 18 d245_17 rfl rfl rfl rfl ?_
    refine wq_k 19 2 d245_18 (by decide) rfl ?_
    refine wq_b 77 22 d245_19 rfl (by decide) rfl (fun c19 => absurd c19 (by decide)) (fun c19 => ?_)
    refine wq_l 23 d245_22 rfl rfl rfl rfl ?_
    refine wq_gi (ci := 10) (j := 6) 26 d245_23 rfl rfl rfl rfl ?_
    refine wq_b 77 29 d245_26 rfl (by decide) rfl (fun c26 => ?_) (fun c26 => absurd (z) c26)
    exact xe_x77 Y (fun y => absurd hd (pg_ld.mpr y)) (fun _ σ' h' r a1 a2 => hQ σ' h' 0 r (rp_Sd a1 hd (pg_dE _ c hd) (Nat.le_refl _)) a2 (fun y => absurd y (rp_d0 a1 hd))) (fun c' l e1 e2 => by cases e1)
  · have hl := pg_ld.mp hd
    have z := rp_l0 hS hl
    have X0 : xe_X t M n σ h c.2.2 s (pm_pi (pm_pi (pm_pi σ 10 27 0) 10 29 0) 10 30 0) h (0, c, [], []) := by
      refine xe_Xm (b := 0) (s' := s) ⟨[], [], hS1, hW1, rfl, ⟨rfl, rfl, trivial, trivial⟩, trivial, trivial, fun T hT => ?_, fun x => Nat.zero_le _, fun a ha => ⟨rfl, fun q hq => hq⟩, rfl⟩ (by omega) (fun _ => ⟨hS.2.2, rfl, Nat.le_refl _, rfl⟩)
      rcases hT with q | q | q <;> exact absurd q List.not_mem_nil
    have key : ∃ (y : xm_S) (N : Nat), y.1 = 2 ∧ xm_run (pt_T t M n) N (0, c, [], []) = y ∧ (pg_live (pt_T t M n) y.2.1 → ∃ c', y = (2, c', [], [(pg_E (pt_T t M n) c).2]) ∧ (pg_E (pt_T t M n) c).1 = (c'.1, c'.2.1, c.2.2)) ∧ (pg_dead (pt_T t M n) y.2.1 → pg_sf (pt_T t M n) y.2.1 (pg_E (pt_T t M n) c).1) := by
      rcases xe_expr hN hl with ⟨q1, y, ⟨N, e⟩, y2, y3⟩ | ⟨q1, q2, c', ⟨N, e⟩, q4, q5⟩
      · exact ⟨y, N, y2, e, fun w => absurd y3.1 (pg_ld.mpr w), fun _ => y3⟩
      · refine ⟨_, N, rfl, e, fun w => ⟨c', rfl, ?_⟩, fun w => absurd w (pg_ld.mpr ⟨q5, ?_⟩)⟩
        · rw [q4, q5, ← q1.1, ← q2]
        · show (pt_T t M n).1 c'.1 ≠ 45
          rw [q4]; exact q1.2
    obtain ⟨y, N, y1, y2, y3, y4⟩ := key
    refine wq_m m245 (Nat.le_of_ble_eq_true rfl) (by decide) rfl ?_
    refine wq_l 1 d245_0 rfl rfl rfl rfl ?_
    refine wq_k 2 0 d245_1 (by decide) rfl ?_
    refine wq_pf (ci := 10) (j := 27) 5 d245_2 rfl rfl rfl ⟨rfl, rfl⟩ rfl ?_
    refine wq_l 6 d245_5 rfl rfl rfl rfl ?_
    refine wq_k 7 0 d245_6 (by decide) rfl ?_
    refine wq_pf (ci := 10) (j := 29) 10 d245_7 rfl rfl rfl ⟨rfl, rfl⟩ rfl ?_
    refine wq_l 11 d245_10 rfl rfl rfl rfl ?_
    refine wq_k 12 0 d245_11 (by decide) rfl ?_
    refine wq_pf (ci := 10) (j := 30) 15 d245_12 rfl rfl rfl ⟨rfl, rfl⟩ rfl ?_
    refine wq_k 16 0 d245_15 (by decide) rfl ?_
    refine wq_s 17 d245_16 rfl rfl (Nat.le_of_ble_eq_true rfl) rfl rfl ?_
    refine wq_l 18 d245_17 rfl rfl rfl rfl ?_
    refine wq_k 19 2 d245_18 (by decide) rfl ?_
    refine wq_b 77 22 d245_19 rfl (by decide) rfl (fun c19 => absurd c19 (by decide)) (fun c19 => ?_)
    refine wq_l 23 d245_22 rfl rfl rfl rfl ?_
    refine wq_gi (ci := 10) (j := 6) 26 d245_23 rfl rfl rfl rfl ?_
    refine wq_b 77 29 d245_26 rfl (by decide) rfl (fun c26 => absurd c26 (fun w => w z)) (fun c26 => ?_)
    refine wq_l 30 d245_29 rfl rfl rfl rfl ?_
    refine wq_b 37 33 d245_30 rfl (by decide) rfl (fun c30 => absurd c30 (by decide)) (fun c30 => ?_)
    refine wq_k 34 1 d245_33 (by decide) rfl ?_
    refine wq_g 38 d245_34 (by decide) ?_
    refine wq_s 39 d245_38 rfl rfl (Nat.le_of_ble_eq_true rfl) rfl rfl ?_
    refine xe_x39 (y := y) hN hs (fun w => ?_) (fun hd2 σ' h' r a1 a2 => hQ σ' h' 0 r (rp_Ss a1 (y4 hd2) (Nat.le_refl _)) a2 (fun w => absurd w (rp_d0 a1 hd2))) (fun c' l e1 e2 σ' h' e a1 a2 a3 => ?_) y1 N (0, c, [], []) _ h 0 X0 (Or.inl (Nat.zero_le _)) y2
    · obtain ⟨c', e1, _⟩ := y3 w
      exact ⟨c', _, e1⟩
    · subst e1
      obtain ⟨c2, f1, f2⟩ := y3 e2
      cases f1
      rw [← f2] at a1
      exact hQ σ' h' e _ a1 a2 (fun _ => ⟨rfl, a3⟩)
theorem rp244 {d : Nat} {Q : Option Value → pm_S → Prop} {t : Nat → Nat} {M n : Nat} {σ : pm_S} {h : rp_H} {c : pg_C} {s to : Nat} (hN : rp_n t M n) (hs : s ≤ 2900) (ht : to < h.1) (hS : rp_S t M n σ c h s) (hQ : ∀ σ' h', rp_S t M n σ' (pg_E (pt_T t M n) c).1 h' (s + 3) → rp_E t M n σ h σ' h' to (pg_E (pt_T t M n) c).2 → Q none σ') : pm_call pm_Y0 (d + 13) 244 [.ref 10, .int (nI to)] σ Q := by
  refine wq_m m244 (Nat.le_of_ble_eq_true rfl) (by decide) rfl ?_
  refine wq_l 1 d244_0 rfl rfl rfl rfl ?_
  refine wq_v 4 [] d244_1 rfl rfl m245 rfl rfl (Nat.le_of_ble_eq_true rfl) rfl (rp245 hN hs hS (fun σ1 h1 e r a1 a2 a3 => ?_))
  refine wq_s 5 d244_4 rfl rfl (Nat.le_of_ble_eq_true rfl) rfl rfl ?_
  refine wq_l 6 d244_5 rfl rfl rfl rfl ?_
  refine wq_gi (ci := 10) (j := 6) 9 d244_6 rfl rfl rfl rfl ?_
  refine wq_b 18 12 d244_9 rfl (by decide) rfl (fun c9 => ?_) (fun c9 => ?_)
  · -- pc 18
    first | exact wq_rv d244_18 (hQ _ _ h2 (rp_Oa ht o F2)) | exact wq_rv d244_18 (hQ _ _ a1 ⟨a2.1, a2.2.1, a2.2.2.1, a2.2.2.2, fun y => absurd y c9⟩)
  · -- pc 12
    have z := Classical.not_not.mp c9
    obtain ⟨er, o⟩ := a3 z
    subst er
    refine wq_l 13 d244_12 rfl rfl rfl rfl ?_
    refine wq_l 14 d244_13 rfl rfl rfl rfl ?_
    refine wq_l 15 d244_14 rfl rfl rfl rfl ?_
    refine wq_v 18 [_, _] d244_15 rfl rfl m227 rfl rfl (Nat.le_of_ble_eq_true rfl) rfl (rp_add a1 (Nat.lt_of_lt_of_le ht a2.2.1) o.2.1.2.1 o.2.1.2.2 (fun σ2 h2 F2 => ?_))
    first | exact wq_rv d244_18 (hQ _ _ h2 (rp_Oa ht o F2)) | exact wq_rv d244_18 (hQ _ _ a1 ⟨a2.1, a2.2.1, a2.2.2.1, a2.2.2.2, fun y => absurd y c9⟩)
