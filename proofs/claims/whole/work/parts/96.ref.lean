theorem d202_0 : decode prog_14_method_28_code 0 = .ok (.aload_n 0, 1) := by decide +kernel
theorem d202_1 : decode prog_14_method_28_code 1 = .ok (.getfield 29, 3) := by decide +kernel
theorem d202_4 : decode prog_14_method_28_code 4 = .ok (.aload_n 0, 1) := by decide +kernel
theorem d202_5 : decode prog_14_method_28_code 5 = .ok (.getfield 321, 3) := by decide +kernel
theorem d202_8 : decode prog_14_method_28_code 8 = .ok (.iload_n 1, 1) := by decide +kernel
theorem d202_9 : decode prog_14_method_28_code 9 = .ok (.iastore, 1) := by decide +kernel
theorem d202_10 : decode prog_14_method_28_code 10 = .ok (.aload_n 0, 1) := by decide +kernel
theorem d202_11 : decode prog_14_method_28_code 11 = .ok (.getfield 32, 3) := by decide +kernel
theorem d202_14 : decode prog_14_method_28_code 14 = .ok (.aload_n 0, 1) := by decide +kernel
theorem d202_15 : decode prog_14_method_28_code 15 = .ok (.getfield 321, 3) := by decide +kernel
theorem d202_18 : decode prog_14_method_28_code 18 = .ok (.iload_n 2, 1) := by decide +kernel
theorem d202_19 : decode prog_14_method_28_code 19 = .ok (.iastore, 1) := by decide +kernel
theorem d202_20 : decode prog_14_method_28_code 20 = .ok (.aload_n 0, 1) := by decide +kernel
theorem d202_21 : decode prog_14_method_28_code 21 = .ok (.getfield 35, 3) := by decide +kernel
theorem d202_24 : decode prog_14_method_28_code 24 = .ok (.aload_n 0, 1) := by decide +kernel
theorem d202_25 : decode prog_14_method_28_code 25 = .ok (.getfield 321, 3) := by decide +kernel
theorem d202_28 : decode prog_14_method_28_code 28 = .ok (.iload_n 3, 1) := by decide +kernel
theorem d202_29 : decode prog_14_method_28_code 29 = .ok (.iastore, 1) := by decide +kernel
theorem d202_30 : decode prog_14_method_28_code 30 = .ok (.aload_n 0, 1) := by decide +kernel
theorem d202_31 : decode prog_14_method_28_code 31 = .ok (.getfield 38, 3) := by decide +kernel
theorem d202_34 : decode prog_14_method_28_code 34 = .ok (.aload_n 0, 1) := by decide +kernel
theorem d202_35 : decode prog_14_method_28_code 35 = .ok (.getfield 321, 3) := by decide +kernel
theorem d202_38 : decode prog_14_method_28_code 38 = .ok (.iconst (-1), 1) := by decide +kernel
theorem d202_39 : decode prog_14_method_28_code 39 = .ok (.iastore, 1) := by decide +kernel
theorem d202_40 : decode prog_14_method_28_code 40 = .ok (.aload_n 0, 1) := by decide +kernel
theorem d202_41 : decode prog_14_method_28_code 41 = .ok (.getfield 41, 3) := by decide +kernel
theorem d202_44 : decode prog_14_method_28_code 44 = .ok (.aload_n 0, 1) := by decide +kernel
theorem d202_45 : decode prog_14_method_28_code 45 = .ok (.getfield 321, 3) := by decide +kernel
theorem d202_48 : decode prog_14_method_28_code 48 = .ok (.iconst (-1), 1) := by decide +kernel
theorem d202_49 : decode prog_14_method_28_code 49 = .ok (.iastore, 1) := by decide +kernel
theorem d202_50 : decode prog_14_method_28_code 50 = .ok (.aload_n 0, 1) := by decide +kernel
theorem d202_51 : decode prog_14_method_28_code 51 = .ok (.getfield 44, 3) := by decide +kernel
theorem d202_54 : decode prog_14_method_28_code 54 = .ok (.aload_n 0, 1) := by decide +kernel
theorem d202_55 : decode prog_14_method_28_code 55 = .ok (.getfield 321, 3) := by decide +kernel
theorem d202_58 : decode prog_14_method_28_code 58 = .ok (.iconst (-1), 1) := by decide +kernel
theorem d202_59 : decode prog_14_method_28_code 59 = .ok (.iastore, 1) := by decide +kernel
theorem d202_60 : decode prog_14_method_28_code 60 = .ok (.aload_n 0, 1) := by decide +kernel
theorem d202_61 : decode prog_14_method_28_code 61 = .ok (.getfield 47, 3) := by decide +kernel
theorem d202_64 : decode prog_14_method_28_code 64 = .ok (.aload_n 0, 1) := by decide +kernel
theorem d202_65 : decode prog_14_method_28_code 65 = .ok (.getfield 321, 3) := by decide +kernel
theorem d202_68 : decode prog_14_method_28_code 68 = .ok (.iconst (-1), 1) := by decide +kernel
theorem d202_69 : decode prog_14_method_28_code 69 = .ok (.iastore, 1) := by decide +kernel
theorem d202_70 : decode prog_14_method_28_code 70 = .ok (.aload_n 0, 1) := by decide +kernel
theorem d202_71 : decode prog_14_method_28_code 71 = .ok (.getfield 50, 3) := by decide +kernel
theorem d202_74 : decode prog_14_method_28_code 74 = .ok (.aload_n 0, 1) := by decide +kernel
theorem d202_75 : decode prog_14_method_28_code 75 = .ok (.getfield 321, 3) := by decide +kernel
theorem d202_78 : decode prog_14_method_28_code 78 = .ok (.iconst (-1), 1) := by decide +kernel
theorem d202_79 : decode prog_14_method_28_code 79 = .ok (.iastore, 1) := by decide +kernel
theorem d202_80 : decode prog_14_method_28_code 80 = .ok (.aload_n 0, 1) := by decide +kernel
theorem d202_81 : decode prog_14_method_28_code 81 = .ok (.getfield 53, 3) := by decide +kernel
theorem d202_84 : decode prog_14_method_28_code 84 = .ok (.aload_n 0, 1) := by decide +kernel
theorem d202_85 : decode prog_14_method_28_code 85 = .ok (.getfield 321, 3) := by decide +kernel
theorem d202_88 : decode prog_14_method_28_code 88 = .ok (.iconst (-1), 1) := by decide +kernel
theorem d202_89 : decode prog_14_method_28_code 89 = .ok (.iastore, 1) := by decide +kernel
theorem d202_90 : decode prog_14_method_28_code 90 = .ok (.aload_n 0, 1) := by decide +kernel
theorem d202_91 : decode prog_14_method_28_code 91 = .ok (.getfield 56, 3) := by decide +kernel
theorem d202_94 : decode prog_14_method_28_code 94 = .ok (.aload_n 0, 1) := by decide +kernel
theorem d202_95 : decode prog_14_method_28_code 95 = .ok (.getfield 321, 3) := by decide +kernel
theorem d202_98 : decode prog_14_method_28_code 98 = .ok (.iconst (-1), 1) := by decide +kernel
theorem d202_99 : decode prog_14_method_28_code 99 = .ok (.iastore, 1) := by decide +kernel
theorem d202_100 : decode prog_14_method_28_code 100 = .ok (.aload_n 0, 1) := by decide +kernel
theorem d202_101 : decode prog_14_method_28_code 101 = .ok (.dup, 1) := by decide +kernel
theorem d202_102 : decode prog_14_method_28_code 102 = .ok (.getfield 321, 3) := by decide +kernel
theorem d202_105 : decode prog_14_method_28_code 105 = .ok (.iconst 1, 1) := by decide +kernel
theorem d202_106 : decode prog_14_method_28_code 106 = .ok (.iadd, 1) := by decide +kernel
theorem d202_107 : decode prog_14_method_28_code 107 = .ok (.putfield 321, 3) := by decide +kernel
theorem d202_110 : decode prog_14_method_28_code 110 = .ok (.aload_n 0, 1) := by decide +kernel
theorem d202_111 : decode prog_14_method_28_code 111 = .ok (.getfield 321, 3) := by decide +kernel
theorem d202_114 : decode prog_14_method_28_code 114 = .ok (.iconst 1, 1) := by decide +kernel
theorem d202_115 : decode prog_14_method_28_code 115 = .ok (.isub, 1) := by decide +kernel
theorem d202_116 : decode prog_14_method_28_code 116 = .ok (.ireturn, 1) := by decide +kernel
theorem m202 : pm_m 202 = some (⟨"TypeRulesModel", "make", "(III)I"⟩, prog_14_method_28_code, 4, (some FieldType.int), 10, 3, 11) := rfl
theorem d248_0 : decode prog_14_method_37_code 0 = .ok (.aload_n 0, 1) := by decide +kernel
theorem d248_1 : decode prog_14_method_37_code 1 = .ok (.getfield 343, 3) := by decide +kernel
theorem d248_4 : decode prog_14_method_37_code 4 = .ok (.bipush 60, 2) := by decide +kernel
theorem d248_6 : decode prog_14_method_37_code 6 = .ok (.if_icmp .ne 13, 3) := by decide +kernel
theorem d248_9 : decode prog_14_method_37_code 9 = .ok (.aload_n 0, 1) := by decide +kernel
theorem d248_10 : decode prog_14_method_37_code 10 = .ok (.bipush 7, 2) := by decide +kernel
theorem d248_12 : decode prog_14_method_37_code 12 = .ok (.aload_n 0, 1) := by decide +kernel
theorem d248_13 : decode prog_14_method_37_code 13 = .ok (.getfield 151, 3) := by decide +kernel
theorem d248_16 : decode prog_14_method_37_code 16 = .ok (.invokevirtual 144, 3) := by decide +kernel
theorem d248_19 : decode prog_14_method_37_code 19 = .ok (.aload_n 0, 1) := by decide +kernel
theorem d248_20 : decode prog_14_method_37_code 20 = .ok (.dup, 1) := by decide +kernel
theorem d248_21 : decode prog_14_method_37_code 21 = .ok (.getfield 343, 3) := by decide +kernel
theorem d248_24 : decode prog_14_method_37_code 24 = .ok (.iconst 1, 1) := by decide +kernel
theorem d248_25 : decode prog_14_method_37_code 25 = .ok (.iadd, 1) := by decide +kernel
theorem d248_26 : decode prog_14_method_37_code 26 = .ok (.putfield 343, 3) := by decide +kernel
theorem d248_29 : decode prog_14_method_37_code 29 = .ok (.aload_n 0, 1) := by decide +kernel
theorem d248_30 : decode prog_14_method_37_code 30 = .ok (.getfield 135, 3) := by decide +kernel
theorem d248_33 : decode prog_14_method_37_code 33 = .ok (.ifCond .ne 7, 3) := by decide +kernel
theorem d248_36 : decode prog_14_method_37_code 36 = .ok (.aload_n 0, 1) := by decide +kernel
theorem d248_37 : decode prog_14_method_37_code 37 = .ok (.invokevirtual 334, 3) := by decide +kernel
theorem d248_40 : decode prog_14_method_37_code 40 = .ok (.return_, 1) := by decide +kernel
theorem m248 : pm_m 248 = some (⟨"TypeRulesModel", "deepen", "()V"⟩, prog_14_method_37_code, 1, none, 10, 0, 11) := rfl
theorem d227_0 : decode prog_14_method_29_code 0 = .ok (.aload_n 0, 1) := by decide +kernel
theorem d227_1 : decode prog_14_method_29_code 1 = .ok (.getfield 47, 3) := by decide +kernel
theorem d227_4 : decode prog_14_method_29_code 4 = .ok (.iload_n 2, 1) := by decide +kernel
theorem d227_5 : decode prog_14_method_29_code 5 = .ok (.iload_n 1, 1) := by decide +kernel
theorem d227_6 : decode prog_14_method_29_code 6 = .ok (.iastore, 1) := by decide +kernel
theorem d227_7 : decode prog_14_method_29_code 7 = .ok (.aload_n 0, 1) := by decide +kernel
theorem d227_8 : decode prog_14_method_29_code 8 = .ok (.getfield 38, 3) := by decide +kernel
theorem d227_11 : decode prog_14_method_29_code 11 = .ok (.iload_n 1, 1) := by decide +kernel
theorem d227_12 : decode prog_14_method_29_code 12 = .ok (.iaload, 1) := by decide +kernel
theorem d227_13 : decode prog_14_method_29_code 13 = .ok (.ifCond .ge 13, 3) := by decide +kernel
theorem d227_16 : decode prog_14_method_29_code 16 = .ok (.aload_n 0, 1) := by decide +kernel
theorem d227_17 : decode prog_14_method_29_code 17 = .ok (.getfield 38, 3) := by decide +kernel
theorem d227_20 : decode prog_14_method_29_code 20 = .ok (.iload_n 1, 1) := by decide +kernel
theorem d227_21 : decode prog_14_method_29_code 21 = .ok (.iload_n 2, 1) := by decide +kernel
theorem d227_22 : decode prog_14_method_29_code 22 = .ok (.iastore, 1) := by decide +kernel
theorem d227_23 : decode prog_14_method_29_code 23 = .ok (.goto 15, 3) := by decide +kernel
theorem d227_26 : decode prog_14_method_29_code 26 = .ok (.aload_n 0, 1) := by decide +kernel
theorem d227_27 : decode prog_14_method_29_code 27 = .ok (.getfield 44, 3) := by decide +kernel
theorem d227_30 : decode prog_14_method_29_code 30 = .ok (.aload_n 0, 1) := by decide +kernel
theorem d227_31 : decode prog_14_method_29_code 31 = .ok (.getfield 41, 3) := by decide +kernel
theorem d227_34 : decode prog_14_method_29_code 34 = .ok (.iload_n 1, 1) := by decide +kernel
theorem d227_35 : decode prog_14_method_29_code 35 = .ok (.iaload, 1) := by decide +kernel
theorem d227_36 : decode prog_14_method_29_code 36 = .ok (.iload_n 2, 1) := by decide +kernel
theorem d227_37 : decode prog_14_method_29_code 37 = .ok (.iastore, 1) := by decide +kernel
theorem d227_38 : decode prog_14_method_29_code 38 = .ok (.aload_n 0, 1) := by decide +kernel
theorem d227_39 : decode prog_14_method_29_code 39 = .ok (.getfield 41, 3) := by decide +kernel
theorem d227_42 : decode prog_14_method_29_code 42 = .ok (.iload_n 1, 1) := by decide +kernel
theorem d227_43 : decode prog_14_method_29_code 43 = .ok (.iload_n 2, 1) := by decide +kernel
theorem d227_44 : decode prog_14_method_29_code 44 = .ok (.iastore, 1) := by decide +kernel
theorem d227_45 : decode prog_14_method_29_code 45 = .ok (.return_, 1) := by decide +kernel
theorem m227 : pm_m 227 = some (⟨"TypeRulesModel", "add", "(II)V"⟩, prog_14_method_29_code, 3, none, 10, 2, 11) := rfl
/-! deepen; make, add: as they are -/
def rf_F (σ σ' : pm_S) : Prop := (∀ a b, (a = 10 ∧ 2 ≤ b ∧ b ≤ 9) ∨ σ'.1 a b = σ.1 a b) ∧ (∀ k, k = 47 ∨ σ'.2.1 k = σ.2.1 k) ∧ ∀ k, (k = 44 ∨ k = 45 ∨ k = 46 ∨ k = 48) ∨ σ'.2.2 k = σ.2.2 k
theorem rf_Fq {σ σ' : pm_S} (h : rq_F σ σ') : rf_F σ σ' := ⟨fun a b => by rcases h.1 a b with z | z; (left; omega); exact Or.inr z, h.2.1, h.2.2⟩
theorem rf_Ft {σ σ1 σ2 : pm_S} (h : rf_F σ σ1) (h2 : rf_F σ1 σ2) : rf_F σ σ2 := by
  refine ⟨fun a b => ?_, fun k => ?_, fun k => ?_⟩
  · rcases h2.1 a b with z | z
    · exact Or.inl z
    · rcases h.1 a b with y | y
      · exact Or.inl y
      · exact Or.inr (z.trans y)
  · rcases h2.2.1 k with z | z
    · exact Or.inl z
    · rcases h.2.1 k with y | y
      · exact Or.inl y
      · exact Or.inr (z.trans y)
  · rcases h2.2.2 k with z | z
    · exact Or.inl z
    · rcases h.2.2 k with y | y
      · exact Or.inl y
      · exact Or.inr (z.trans y)
theorem rf_Fp {σ : pm_S} {b : Nat} {x : Int32} (hb : 2 ≤ b ∧ b ≤ 9) : rf_F σ (pm_pi σ 10 b x) := by
  refine ⟨fun a c => ?_, fun _ => Or.inr rfl, fun _ => Or.inr rfl⟩
  by_cases q : a = 10
  · by_cases q2 : c = b
    · left; omega
    · right; unfold pm_pi; simp [q, q2]
  · right; unfold pm_pi; simp [q]
theorem rf_deepen {d : Nat} {σ : pm_S} {Q : Option Value → pm_S → Prop} {t : Nat → Nat} {M n : Nat} {c : pg_C} (hM : M ≤ 8192) (hn : pt_n t M n) (hR : rf_T σ t M n c) (hl : pg_live (pt_T t M n) c) (h44 : lx_k t M lx_ns c.1 ≠ 44) (hQ : ∀ σ', rf_F σ σ' → rf_T σ' t M n (pg_opn c) → Q none σ') : pm_call pm_Y0 (d + 7) 248 [.ref 10] σ Q := by
  have hR' := hR
  obtain ⟨hT, hc, hL, hD⟩ := hR'
  obtain ⟨l1, l2, l3, l4, l5, l6, l7, l8⟩ := hL hl
  have hTk : (pt_T t M n).1 c.1 = lx_k t M lx_ns c.1 := if_pos hc
  have eo := nI_toInt (n := c.2.2) (by omega)
  refine wq_m m248 (Nat.le_of_ble_eq_true rfl) (by decide) rfl ?_
  refine wq_l 1 d248_0 rfl rfl rfl rfl ?_
  refine wq_gi (ci := 10) (j := 8) 4 d248_1 rfl rfl rfl rfl ?_
  first | rw [l7] | rw [show (pm_pi (pm_pi σ 10 6 7) 10 7 (nI (lx_p t M lx_ns c.1))).1 10 8 = nI c.2.2 from l7]
  refine wq_k 6 60 d248_4 (by decide) rfl ?_
  refine wq_b 19 9 d248_6 rfl (by decide) rfl (fun c6 => ?_) (fun c6 => ?_)
  · -- pc 19
    refine wq_l 20 d248_19 rfl rfl rfl rfl ?_
    refine wq_a 21 d248_20 rfl rfl ?_
    refine wq_gi (ci := 10) (j := 8) 24 d248_21 rfl rfl rfl rfl ?_
    first | rw [l7] | rw [show (pm_pi (pm_pi σ 10 6 7) 10 7 (nI (lx_p t M lx_ns c.1))).1 10 8 = nI c.2.2 from l7]
    refine wq_k 25 1 d248_24 (by decide) rfl ?_
    refine wq_a 26 d248_25 rfl rfl ?_
    rw [show nI c.2.2 + 1 = nI (c.2.2 + 1) from (nI_succ _).symm]
    refine wq_pf (ci := 10) (j := 8) 29 d248_26 rfl rfl rfl ⟨rfl, rfl⟩ rfl ?_
    first
      | (have h60' := h60
         refine wq_l 30 d248_29 rfl rfl rfl rfl ?_
         refine wq_gi (ci := 10) (j := 6) 33 d248_30 rfl rfl rfl rfl ?_
         refine wq_b 40 36 d248_33 rfl (by decide) rfl (fun _ => ?_) (fun z => absurd (by show ¬ (7 : Int32) = 0; decide) z)
         refine wq_rv d248_40 ?_
         refine hQ _ (rf_Ft (rf_Ft (rf_Fp (by decide)) (rf_Fp (by decide))) (rf_Fp (by decide))) ?_
         rw [show pg_opn c = (c.1, 2, c.2.2) from if_neg h60']
         refine ⟨hT, hc, fun z => absurd z.1 (by decide : ¬ (2 : Nat) = 0), fun _ => ⟨?_, by show ¬ (7 : Int32) = 0; decide, rfl⟩⟩
         show (7 : Int32) = _
         unfold rf_f
         rw [if_neg hl.2]
         rfl)
      | (have h60 : c.2.2 < 60 := by have z := c6; simp only [i_lt, i_le, i_eq, ne_eq, Int32.reduceToInt, b2_0, b2_1, decide_eq_true_eq, decide_eq_false_iff_not, Bool.not_eq_true, Bool.not_eq_false, eo] at z; omega
         have hR1 : rf_T (pm_pi σ 10 8 (nI (c.2.2 + 1))) t M n (c.1, c.2.1, c.2.2 + 1) := ⟨hT, hc, fun _ => ⟨l1, l2, l3, l4, l5, rx_N_pi (by decide) l6, rfl, h60⟩, fun z => absurd (show pg_dead (pt_T t M n) c from z) (pg_ld.mpr hl)⟩
         refine wq_l 30 d248_29 rfl rfl rfl rfl ?_
         refine wq_gi (ci := 10) (j := 6) 33 d248_30 rfl rfl rfl rfl ?_
         rw [show (pm_pi σ 10 8 (nI (c.2.2 + 1))).1 10 6 = 0 from l1]
         refine wq_b 40 36 d248_33 rfl (by decide) rfl (fun z => absurd rfl z) (fun _ => ?_)
         refine wq_l 37 d248_36 rfl rfl rfl rfl ?_
         refine wq_v 40 [] d248_37 rfl rfl m203 rfl rfl (Nat.le_of_ble_eq_true rfl) rfl (rf_go hn hR1 hl h44 (fun σ1 hF h1 => ?_))
         refine wq_rv d248_40 ?_
         refine hQ _ (rf_Ft (rf_Fp (by decide)) (rf_Fq hF)) ?_
         rw [show pg_opn c = (c.1 + 1, c.2.1, c.2.2 + 1) from if_pos h60]
         exact h1)
  · -- pc 9
    have h60 : ¬ c.2.2 < 60 := by have z := c6; simp only [i_lt, i_le, i_eq, ne_eq, Int32.reduceToInt, b2_0, b2_1, decide_eq_true_eq, decide_eq_false_iff_not, Bool.not_eq_true, Bool.not_eq_false, eo] at z; omega
    refine wq_l 10 d248_9 rfl rfl rfl rfl ?_
    refine wq_k 12 7 d248_10 (by decide) rfl ?_
    refine wq_l 13 d248_12 rfl rfl rfl rfl ?_
    refine wq_gi (ci := 10) (j := 4) 16 d248_13 rfl rfl rfl rfl ?_
    rw [l4]
    refine wq_v 19 [_, _] d248_16 rfl rfl m206 rfl rfl (Nat.le_of_ble_eq_true rfl) rfl (sp206 l1 ?_)
    refine wq_l 20 d248_19 rfl rfl rfl rfl ?_
    refine wq_a 21 d248_20 rfl rfl ?_
    refine wq_gi (ci := 10) (j := 8) 24 d248_21 rfl rfl rfl rfl ?_
    first | rw [l7] | rw [show (pm_pi (pm_pi σ 10 6 7) 10 7 (nI (lx_p t M lx_ns c.1))).1 10 8 = nI c.2.2 from l7]
    refine wq_k 25 1 d248_24 (by decide) rfl ?_
    refine wq_a 26 d248_25 rfl rfl ?_
    rw [show nI c.2.2 + 1 = nI (c.2.2 + 1) from (nI_succ _).symm]
    refine wq_pf (ci := 10) (j := 8) 29 d248_26 rfl rfl rfl ⟨rfl, rfl⟩ rfl ?_
    first
      | (have h60' := h60
         refine wq_l 30 d248_29 rfl rfl rfl rfl ?_
         refine wq_gi (ci := 10) (j := 6) 33 d248_30 rfl rfl rfl rfl ?_
         refine wq_b 40 36 d248_33 rfl (by decide) rfl (fun _ => ?_) (fun z => absurd (by show ¬ (7 : Int32) = 0; decide) z)
         refine wq_rv d248_40 ?_
         refine hQ _ (rf_Ft (rf_Ft (rf_Fp (by decide)) (rf_Fp (by decide))) (rf_Fp (by decide))) ?_
         rw [show pg_opn c = (c.1, 2, c.2.2) from if_neg h60']
         refine ⟨hT, hc, fun z => absurd z.1 (by decide : ¬ (2 : Nat) = 0), fun _ => ⟨?_, by show ¬ (7 : Int32) = 0; decide, rfl⟩⟩
         show (7 : Int32) = _
         unfold rf_f
         rw [if_neg hl.2]
         rfl)
      | (have h60 : c.2.2 < 60 := by have z := c6; simp only [i_lt, i_le, i_eq, ne_eq, Int32.reduceToInt, b2_0, b2_1, decide_eq_true_eq, decide_eq_false_iff_not, Bool.not_eq_true, Bool.not_eq_false, eo] at z; omega
         have hR1 : rf_T (pm_pi σ 10 8 (nI (c.2.2 + 1))) t M n (c.1, c.2.1, c.2.2 + 1) := ⟨hT, hc, fun _ => ⟨l1, l2, l3, l4, l5, rx_N_pi (by decide) l6, rfl, h60⟩, fun z => absurd (show pg_dead (pt_T t M n) c from z) (pg_ld.mpr hl)⟩
         refine wq_l 30 d248_29 rfl rfl rfl rfl ?_
         refine wq_gi (ci := 10) (j := 6) 33 d248_30 rfl rfl rfl rfl ?_
         rw [show (pm_pi σ 10 8 (nI (c.2.2 + 1))).1 10 6 = 0 from l1]
         refine wq_b 40 36 d248_33 rfl (by decide) rfl (fun z => absurd rfl z) (fun _ => ?_)
         refine wq_l 37 d248_36 rfl rfl rfl rfl ?_
         refine wq_v 40 [] d248_37 rfl rfl m203 rfl rfl (Nat.le_of_ble_eq_true rfl) rfl (rf_go hn hR1 hl h44 (fun σ1 hF h1 => ?_))
         refine wq_rv d248_40 ?_
         refine hQ _ (rf_Ft (rf_Fp (by decide)) (rf_Fq hF)) ?_
         rw [show pg_opn c = (c.1 + 1, c.2.1, c.2.2 + 1) from if_pos h60]
         exact h1)
/-- a new node, as the reference writes it -/
def rm_mk (σ : pm_S) (m : Nat) (x y z : Int32) : pm_S := pm_pi (pm_pr (pm_pr (pm_pr (pm_pr (pm_pr (pm_pr (pm_pr (pm_pr (pm_pr (pm_pr σ 49 (upd (σ.2.2 49) m x)) 50 (upd (σ.2.2 50) m y)) 51 (upd (σ.2.2 51) m z)) 52 (upd (σ.2.2 52) m (-1))) 53 (upd (σ.2.2 53) m (-1))) 54 (upd (σ.2.2 54) m (-1))) 55 (upd (σ.2.2 55) m (-1))) 56 (upd (σ.2.2 56) m (-1))) 57 (upd (σ.2.2 57) m (-1))) 58 (upd (σ.2.2 58) m (-1))) 10 15 (nI (m + 1))
theorem sp202 {d : Nat} {σ : pm_S} {Q : Option Value → pm_S → Prop} {m : Nat} {x y z : Int32} (h15 : σ.1 10 15 = nI m) (hm : m < 20000) (hQ : Q (some (.int (nI m))) (rm_mk σ m x y z)) : pm_call pm_Y0 (d + 1) 202 [.ref 10, .int x, .int y, .int z] σ Q := by
  have em := nI_toInt (n := m) (by omega)
  have ek := nI_clamp (n := m) (by omega)
  refine wq_m m202 (Nat.le_of_ble_eq_true rfl) (by decide) rfl ?_
  refine wq_l 1 d202_0 rfl rfl rfl rfl ?_
  refine wq_gr (ci := 10) (j := 16) (q := 49) 4 d202_1 rfl rfl rfl rfl ?_
  refine wq_l 5 d202_4 rfl rfl rfl rfl ?_
  refine wq_gi (ci := 10) (j := 15) 8 d202_5 rfl rfl rfl rfl ?_
  first | simp only [pm_r1r, h15] | rw [show ∀ (τ : pm_S) (y : Int32), (pm_pi τ 10 15 y).1 10 15 = y from fun _ _ => rfl]
  refine wq_l 9 d202_8 rfl rfl rfl rfl ?_
  refine wq_as 10 d202_9 rfl rfl rfl (vp_in_iff.mpr (by simp only [i_lt, i_le, i_eq, ne_eq, Int32.reduceToInt, b2_0, b2_1, decide_eq_true_eq, decide_eq_false_iff_not, Bool.not_eq_true, Bool.not_eq_false] at * <;> omega)) ?_
  refine wq_l 11 d202_10 rfl rfl rfl rfl ?_
  refine wq_gr (ci := 10) (j := 17) (q := 50) 14 d202_11 rfl rfl rfl rfl ?_
  refine wq_l 15 d202_14 rfl rfl rfl rfl ?_
  refine wq_gi (ci := 10) (j := 15) 18 d202_15 rfl rfl rfl rfl ?_
  first | simp only [pm_r1r, h15] | rw [show ∀ (τ : pm_S) (y : Int32), (pm_pi τ 10 15 y).1 10 15 = y from fun _ _ => rfl]
  refine wq_l 19 d202_18 rfl rfl rfl rfl ?_
  refine wq_as 20 d202_19 rfl rfl rfl (vp_in_iff.mpr (by simp only [i_lt, i_le, i_eq, ne_eq, Int32.reduceToInt, b2_0, b2_1, decide_eq_true_eq, decide_eq_false_iff_not, Bool.not_eq_true, Bool.not_eq_false] at * <;> omega)) ?_
  refine wq_l 21 d202_20 rfl rfl rfl rfl ?_
  refine wq_gr (ci := 10) (j := 18) (q := 51) 24 d202_21 rfl rfl rfl rfl ?_
  refine wq_l 25 d202_24 rfl rfl rfl rfl ?_
  refine wq_gi (ci := 10) (j := 15) 28 d202_25 rfl rfl rfl rfl ?_
  first | simp only [pm_r1r, h15] | rw [show ∀ (τ : pm_S) (y : Int32), (pm_pi τ 10 15 y).1 10 15 = y from fun _ _ => rfl]
  refine wq_l 29 d202_28 rfl rfl rfl rfl ?_
  refine wq_as 30 d202_29 rfl rfl rfl (vp_in_iff.mpr (by simp only [i_lt, i_le, i_eq, ne_eq, Int32.reduceToInt, b2_0, b2_1, decide_eq_true_eq, decide_eq_false_iff_not, Bool.not_eq_true, Bool.not_eq_false] at * <;> omega)) ?_
  refine wq_l 31 d202_30 rfl rfl rfl rfl ?_
  refine wq_gr (ci := 10) (j := 19) (q := 52) 34 d202_31 rfl rfl rfl rfl ?_
  refine wq_l 35 d202_34 rfl rfl rfl rfl ?_
  refine wq_gi (ci := 10) (j := 15) 38 d202_35 rfl rfl rfl rfl ?_
  first | simp only [pm_r1r, h15] | rw [show ∀ (τ : pm_S) (y : Int32), (pm_pi τ 10 15 y).1 10 15 = y from fun _ _ => rfl]
  refine wq_k 39 (-1) d202_38 (by decide) rfl ?_
  refine wq_as 40 d202_39 rfl rfl rfl (vp_in_iff.mpr (by simp only [i_lt, i_le, i_eq, ne_eq, Int32.reduceToInt, b2_0, b2_1, decide_eq_true_eq, decide_eq_false_iff_not, Bool.not_eq_true, Bool.not_eq_false] at * <;> omega)) ?_
  refine wq_l 41 d202_40 rfl rfl rfl rfl ?_
  refine wq_gr (ci := 10) (j := 20) (q := 53) 44 d202_41 rfl rfl rfl rfl ?_
  refine wq_l 45 d202_44 rfl rfl rfl rfl ?_
  refine wq_gi (ci := 10) (j := 15) 48 d202_45 rfl rfl rfl rfl ?_
  first | simp only [pm_r1r, h15] | rw [show ∀ (τ : pm_S) (y : Int32), (pm_pi τ 10 15 y).1 10 15 = y from fun _ _ => rfl]
  refine wq_k 49 (-1) d202_48 (by decide) rfl ?_
  refine wq_as 50 d202_49 rfl rfl rfl (vp_in_iff.mpr (by simp only [i_lt, i_le, i_eq, ne_eq, Int32.reduceToInt, b2_0, b2_1, decide_eq_true_eq, decide_eq_false_iff_not, Bool.not_eq_true, Bool.not_eq_false] at * <;> omega)) ?_
  refine wq_l 51 d202_50 rfl rfl rfl rfl ?_
  refine wq_gr (ci := 10) (j := 21) (q := 54) 54 d202_51 rfl rfl rfl rfl ?_
  refine wq_l 55 d202_54 rfl rfl rfl rfl ?_
  refine wq_gi (ci := 10) (j := 15) 58 d202_55 rfl rfl rfl rfl ?_
  first | simp only [pm_r1r, h15] | rw [show ∀ (τ : pm_S) (y : Int32), (pm_pi τ 10 15 y).1 10 15 = y from fun _ _ => rfl]
  refine wq_k 59 (-1) d202_58 (by decide) rfl ?_
  refine wq_as 60 d202_59 rfl rfl rfl (vp_in_iff.mpr (by simp only [i_lt, i_le, i_eq, ne_eq, Int32.reduceToInt, b2_0, b2_1, decide_eq_true_eq, decide_eq_false_iff_not, Bool.not_eq_true, Bool.not_eq_false] at * <;> omega)) ?_
  refine wq_l 61 d202_60 rfl rfl rfl rfl ?_
  refine wq_gr (ci := 10) (j := 22) (q := 55) 64 d202_61 rfl rfl rfl rfl ?_
  refine wq_l 65 d202_64 rfl rfl rfl rfl ?_
  refine wq_gi (ci := 10) (j := 15) 68 d202_65 rfl rfl rfl rfl ?_
  first | simp only [pm_r1r, h15] | rw [show ∀ (τ : pm_S) (y : Int32), (pm_pi τ 10 15 y).1 10 15 = y from fun _ _ => rfl]
  refine wq_k 69 (-1) d202_68 (by decide) rfl ?_
  refine wq_as 70 d202_69 rfl rfl rfl (vp_in_iff.mpr (by simp only [i_lt, i_le, i_eq, ne_eq, Int32.reduceToInt, b2_0, b2_1, decide_eq_true_eq, decide_eq_false_iff_not, Bool.not_eq_true, Bool.not_eq_false] at * <;> omega)) ?_
  refine wq_l 71 d202_70 rfl rfl rfl rfl ?_
  refine wq_gr (ci := 10) (j := 23) (q := 56) 74 d202_71 rfl rfl rfl rfl ?_
  refine wq_l 75 d202_74 rfl rfl rfl rfl ?_
  refine wq_gi (ci := 10) (j := 15) 78 d202_75 rfl rfl rfl rfl ?_
  first | simp only [pm_r1r, h15] | rw [show ∀ (τ : pm_S) (y : Int32), (pm_pi τ 10 15 y).1 10 15 = y from fun _ _ => rfl]
  refine wq_k 79 (-1) d202_78 (by decide) rfl ?_
  refine wq_as 80 d202_79 rfl rfl rfl (vp_in_iff.mpr (by simp only [i_lt, i_le, i_eq, ne_eq, Int32.reduceToInt, b2_0, b2_1, decide_eq_true_eq, decide_eq_false_iff_not, Bool.not_eq_true, Bool.not_eq_false] at * <;> omega)) ?_
  refine wq_l 81 d202_80 rfl rfl rfl rfl ?_
  refine wq_gr (ci := 10) (j := 24) (q := 57) 84 d202_81 rfl rfl rfl rfl ?_
  refine wq_l 85 d202_84 rfl rfl rfl rfl ?_
  refine wq_gi (ci := 10) (j := 15) 88 d202_85 rfl rfl rfl rfl ?_
  first | simp only [pm_r1r, h15] | rw [show ∀ (τ : pm_S) (y : Int32), (pm_pi τ 10 15 y).1 10 15 = y from fun _ _ => rfl]
  refine wq_k 89 (-1) d202_88 (by decide) rfl ?_
  refine wq_as 90 d202_89 rfl rfl rfl (vp_in_iff.mpr (by simp only [i_lt, i_le, i_eq, ne_eq, Int32.reduceToInt, b2_0, b2_1, decide_eq_true_eq, decide_eq_false_iff_not, Bool.not_eq_true, Bool.not_eq_false] at * <;> omega)) ?_
  refine wq_l 91 d202_90 rfl rfl rfl rfl ?_
  refine wq_gr (ci := 10) (j := 25) (q := 58) 94 d202_91 rfl rfl rfl rfl ?_
  refine wq_l 95 d202_94 rfl rfl rfl rfl ?_
  refine wq_gi (ci := 10) (j := 15) 98 d202_95 rfl rfl rfl rfl ?_
  first | simp only [pm_r1r, h15] | rw [show ∀ (τ : pm_S) (y : Int32), (pm_pi τ 10 15 y).1 10 15 = y from fun _ _ => rfl]
  refine wq_k 99 (-1) d202_98 (by decide) rfl ?_
  refine wq_as 100 d202_99 rfl rfl rfl (vp_in_iff.mpr (by simp only [i_lt, i_le, i_eq, ne_eq, Int32.reduceToInt, b2_0, b2_1, decide_eq_true_eq, decide_eq_false_iff_not, Bool.not_eq_true, Bool.not_eq_false] at * <;> omega)) ?_
  refine wq_l 101 d202_100 rfl rfl rfl rfl ?_
  refine wq_a 102 d202_101 rfl rfl ?_
  refine wq_gi (ci := 10) (j := 15) 105 d202_102 rfl rfl rfl rfl ?_
  first | simp only [pm_r1r, h15] | rw [show ∀ (τ : pm_S) (y : Int32), (pm_pi τ 10 15 y).1 10 15 = y from fun _ _ => rfl]
  refine wq_k 106 1 d202_105 (by decide) rfl ?_
  refine wq_a 107 d202_106 rfl rfl ?_
  rw [show nI m + 1 = nI (m + 1) from (nI_succ m).symm]
  refine wq_pf (ci := 10) (j := 15) 110 d202_107 rfl rfl rfl ⟨rfl, rfl⟩ rfl ?_
  refine wq_l 111 d202_110 rfl rfl rfl rfl ?_
  refine wq_gi (ci := 10) (j := 15) 114 d202_111 rfl rfl rfl rfl ?_
  first | simp only [pm_r1r, h15] | rw [show ∀ (τ : pm_S) (y : Int32), (pm_pi τ 10 15 y).1 10 15 = y from fun _ _ => rfl]
  refine wq_k 115 1 d202_114 (by decide) rfl ?_
  refine wq_a 116 d202_115 rfl rfl ?_
  rw [ek, nI_pred]
  refine wq_ri d202_116 (rfl) ?_
  exact hQ
