theorem d231_0 : decode prog_14_method_40_code 0 = .ok (.aload_n 0, 1) := by decide +kernel
theorem d231_1 : decode prog_14_method_40_code 1 = .ok (.getfield 157, 3) := by decide +kernel
theorem d231_4 : decode prog_14_method_40_code 4 = .ok (.bipush 111, 2) := by decide +kernel
theorem d231_6 : decode prog_14_method_40_code 6 = .ok (.if_icmp .lt 45, 3) := by decide +kernel
theorem d231_9 : decode prog_14_method_40_code 9 = .ok (.aload_n 0, 1) := by decide +kernel
theorem d231_10 : decode prog_14_method_40_code 10 = .ok (.getfield 157, 3) := by decide +kernel
theorem d231_13 : decode prog_14_method_40_code 13 = .ok (.bipush 113, 2) := by decide +kernel
theorem d231_15 : decode prog_14_method_40_code 15 = .ok (.if_icmp .gt 36, 3) := by decide +kernel
theorem d231_18 : decode prog_14_method_40_code 18 = .ok (.aload_n 0, 1) := by decide +kernel
theorem d231_19 : decode prog_14_method_40_code 19 = .ok (.getfield 135, 3) := by decide +kernel
theorem d231_22 : decode prog_14_method_40_code 22 = .ok (.ifCond .ne 29, 3) := by decide +kernel
theorem d231_25 : decode prog_14_method_40_code 25 = .ok (.aload_n 0, 1) := by decide +kernel
theorem d231_26 : decode prog_14_method_40_code 26 = .ok (.iload_n 1, 1) := by decide +kernel
theorem d231_27 : decode prog_14_method_40_code 27 = .ok (.bipush 8, 2) := by decide +kernel
theorem d231_29 : decode prog_14_method_40_code 29 = .ok (.aload_n 0, 1) := by decide +kernel
theorem d231_30 : decode prog_14_method_40_code 30 = .ok (.getfield 151, 3) := by decide +kernel
theorem d231_33 : decode prog_14_method_40_code 33 = .ok (.aload_n 0, 1) := by decide +kernel
theorem d231_34 : decode prog_14_method_40_code 34 = .ok (.getfield 157, 3) := by decide +kernel
theorem d231_37 : decode prog_14_method_40_code 37 = .ok (.bipush 111, 2) := by decide +kernel
theorem d231_39 : decode prog_14_method_40_code 39 = .ok (.isub, 1) := by decide +kernel
theorem d231_40 : decode prog_14_method_40_code 40 = .ok (.invokevirtual 349, 3) := by decide +kernel
theorem d231_43 : decode prog_14_method_40_code 43 = .ok (.pop, 1) := by decide +kernel
theorem d231_44 : decode prog_14_method_40_code 44 = .ok (.aload_n 0, 1) := by decide +kernel
theorem d231_45 : decode prog_14_method_40_code 45 = .ok (.invokevirtual 334, 3) := by decide +kernel
theorem d231_48 : decode prog_14_method_40_code 48 = .ok (.goto 7, 3) := by decide +kernel
theorem d231_51 : decode prog_14_method_40_code 51 = .ok (.aload_n 0, 1) := by decide +kernel
theorem d231_52 : decode prog_14_method_40_code 52 = .ok (.invokevirtual 337, 3) := by decide +kernel
theorem d231_55 : decode prog_14_method_40_code 55 = .ok (.return_, 1) := by decide +kernel
theorem m231 : pm_m 231 = some (⟨"TypeRulesModel", "simple", "(I)V"⟩, prog_14_method_40_code, 2, none, 10, 1, 11) := rfl
theorem d234_0 : decode prog_14_method_39_code 0 = .ok (.aload_n 0, 1) := by decide +kernel
theorem d234_1 : decode prog_14_method_39_code 1 = .ok (.getfield 151, 3) := by decide +kernel
theorem d234_4 : decode prog_14_method_39_code 4 = .ok (.istore_n 2, 1) := by decide +kernel
theorem d234_5 : decode prog_14_method_39_code 5 = .ok (.aload_n 0, 1) := by decide +kernel
theorem d234_6 : decode prog_14_method_39_code 6 = .ok (.sipush 135, 3) := by decide +kernel
theorem d234_9 : decode prog_14_method_39_code 9 = .ok (.invokevirtual 331, 3) := by decide +kernel
theorem d234_12 : decode prog_14_method_39_code 12 = .ok (.ifCond .ne 13, 3) := by decide +kernel
theorem d234_15 : decode prog_14_method_39_code 15 = .ok (.aload_n 0, 1) := by decide +kernel
theorem d234_16 : decode prog_14_method_39_code 16 = .ok (.sipush 136, 3) := by decide +kernel
theorem d234_19 : decode prog_14_method_39_code 19 = .ok (.invokevirtual 331, 3) := by decide +kernel
theorem d234_22 : decode prog_14_method_39_code 22 = .ok (.ifCond .eq 32, 3) := by decide +kernel
theorem d234_25 : decode prog_14_method_39_code 25 = .ok (.aload_n 0, 1) := by decide +kernel
theorem d234_26 : decode prog_14_method_39_code 26 = .ok (.iload_n 1, 1) := by decide +kernel
theorem d234_27 : decode prog_14_method_39_code 27 = .ok (.bipush 31, 2) := by decide +kernel
theorem d234_29 : decode prog_14_method_39_code 29 = .ok (.iload_n 2, 1) := by decide +kernel
theorem d234_30 : decode prog_14_method_39_code 30 = .ok (.aload_n 0, 1) := by decide +kernel
theorem d234_31 : decode prog_14_method_39_code 31 = .ok (.sipush 135, 3) := by decide +kernel
theorem d234_34 : decode prog_14_method_39_code 34 = .ok (.invokevirtual 331, 3) := by decide +kernel
theorem d234_37 : decode prog_14_method_39_code 37 = .ok (.ifCond .eq 7, 3) := by decide +kernel
theorem d234_40 : decode prog_14_method_39_code 40 = .ok (.iconst 1, 1) := by decide +kernel
theorem d234_41 : decode prog_14_method_39_code 41 = .ok (.goto 4, 3) := by decide +kernel
theorem d234_44 : decode prog_14_method_39_code 44 = .ok (.iconst 0, 1) := by decide +kernel
theorem d234_45 : decode prog_14_method_39_code 45 = .ok (.invokevirtual 349, 3) := by decide +kernel
theorem d234_48 : decode prog_14_method_39_code 48 = .ok (.pop, 1) := by decide +kernel
theorem d234_49 : decode prog_14_method_39_code 49 = .ok (.aload_n 0, 1) := by decide +kernel
theorem d234_50 : decode prog_14_method_39_code 50 = .ok (.invokevirtual 334, 3) := by decide +kernel
theorem d234_53 : decode prog_14_method_39_code 53 = .ok (.return_, 1) := by decide +kernel
theorem d234_54 : decode prog_14_method_39_code 54 = .ok (.aload_n 0, 1) := by decide +kernel
theorem d234_55 : decode prog_14_method_39_code 55 = .ok (.sipush 245, 3) := by decide +kernel
theorem d234_58 : decode prog_14_method_39_code 58 = .ok (.invokevirtual 353, 3) := by decide +kernel
theorem d234_61 : decode prog_14_method_39_code 61 = .ok (.istore_n 3, 1) := by decide +kernel
theorem d234_62 : decode prog_14_method_39_code 62 = .ok (.aload_n 0, 1) := by decide +kernel
theorem d234_63 : decode prog_14_method_39_code 63 = .ok (.getfield 154, 3) := by decide +kernel
theorem d234_66 : decode prog_14_method_39_code 66 = .ok (.istore 4, 2) := by decide +kernel
theorem d234_68 : decode prog_14_method_39_code 68 = .ok (.aload_n 0, 1) := by decide +kernel
theorem d234_69 : decode prog_14_method_39_code 69 = .ok (.iconst 2, 1) := by decide +kernel
theorem d234_70 : decode prog_14_method_39_code 70 = .ok (.invokevirtual 340, 3) := by decide +kernel
theorem d234_73 : decode prog_14_method_39_code 73 = .ok (.aload_n 0, 1) := by decide +kernel
theorem d234_74 : decode prog_14_method_39_code 74 = .ok (.iload_n 1, 1) := by decide +kernel
theorem d234_75 : decode prog_14_method_39_code 75 = .ok (.bipush 30, 2) := by decide +kernel
theorem d234_77 : decode prog_14_method_39_code 77 = .ok (.iload_n 2, 1) := by decide +kernel
theorem d234_78 : decode prog_14_method_39_code 78 = .ok (.iload_n 3, 1) := by decide +kernel
theorem d234_79 : decode prog_14_method_39_code 79 = .ok (.ifCond .eq 9, 3) := by decide +kernel
theorem d234_82 : decode prog_14_method_39_code 82 = .ok (.iload 4, 2) := by decide +kernel
theorem d234_84 : decode prog_14_method_39_code 84 = .ok (.ineg, 1) := by decide +kernel
theorem d234_85 : decode prog_14_method_39_code 85 = .ok (.goto 5, 3) := by decide +kernel
theorem d234_88 : decode prog_14_method_39_code 88 = .ok (.iload 4, 2) := by decide +kernel
theorem d234_90 : decode prog_14_method_39_code 90 = .ok (.invokevirtual 349, 3) := by decide +kernel
theorem d234_93 : decode prog_14_method_39_code 93 = .ok (.pop, 1) := by decide +kernel
theorem d234_94 : decode prog_14_method_39_code 94 = .ok (.return_, 1) := by decide +kernel
theorem m234 : pm_m 234 = some (⟨"TypeRulesModel", "constant", "(I)V"⟩, prog_14_method_39_code, 5, none, 10, 1, 11) := rfl
theorem d260_0 : decode prog_14_method_64_code 0 = .ok (.aload_n 0, 1) := by decide +kernel
theorem d260_1 : decode prog_14_method_64_code 1 = .ok (.getfield 135, 3) := by decide +kernel
theorem d260_4 : decode prog_14_method_64_code 4 = .ok (.ifCond .ne 8, 3) := by decide +kernel
theorem d260_7 : decode prog_14_method_64_code 7 = .ok (.aload_n 0, 1) := by decide +kernel
theorem d260_8 : decode prog_14_method_64_code 8 = .ok (.iload_n 1, 1) := by decide +kernel
theorem d260_9 : decode prog_14_method_64_code 9 = .ok (.invokevirtual 360, 3) := by decide +kernel
theorem d260_12 : decode prog_14_method_64_code 12 = .ok (.return_, 1) := by decide +kernel
theorem m260 : pm_m 260 = some (⟨"TypeRulesModel", "constantOf", "(I)V"⟩, prog_14_method_64_code, 2, none, 10, 1, 11) := rfl
/-! types and constants -/
theorem rp_b0 {t : Nat → Nat} {M n : Nat} {σ : pm_S} {c : pg_C} {h : rp_H} {s to : Nat} (_ : to < h.1) (_ : rp_S t M n σ c h s) : rp_E t M n σ h σ h to [] := rp_Er
theorem rp_h0 {t : Nat → Nat} {M n : Nat} {σ : pm_S} {c : pg_C} {h : rp_H} {s to : Nat} (_ : rp_S t M n σ c (rp_in h to) s) : rp_E t M n σ (rp_in h to) σ (rp_in h to) h.1 [] := rp_Er
theorem rx_ty : ∀ k, k < 69 → ((111 ≤ (rx_c k).toInt ∧ (rx_c k).toInt ≤ 113) ↔ (k = 11 ∨ k = 12 ∨ k = 13)) := by decide +kernel
theorem rx_ts : ∀ k, k < 69 → (k = 11 ∨ k = 12 ∨ k = 13) → rx_c k - 111 = nI (k - 11) := by decide +kernel
theorem rp_k6 {t : Nat → Nat} {M n : Nat} {σ : pm_S} {c : pg_C} {h : rp_H} {s : Nat} (hN : rp_n t M n) (e : rp_S t M n σ c h s) (z : σ.1 10 6 = 0) : pg_k (pt_T t M n) c < 69 ∧ pg_k (pt_T t M n) c ≠ 45 ∧ pg_k (pt_T t M n) c ≠ 46 := by
  have hl := rp_lv e z
  have h1 := rp_kk e hl
  have h2 := rf_k hN.1 hN.2 e.1.2.1
  have h3 : (pt_T t M n).1 c.1 = lx_k t M lx_ns c.1 := if_pos e.1.2.1
  have h4 := hl.2
  omega
theorem rp_tye {t : Nat → Nat} {M n : Nat} {σ : pm_S} {c : pg_C} {h : rp_H} {s : Nat} (hN : rp_n t M n) (e : rp_S t M n σ c h s) : pg_any (pt_T t M n) [11, 12, 13] c = true ↔ σ.1 10 6 = 0 ∧ 111 ≤ (σ.1 10 3).toInt ∧ (σ.1 10 3).toInt ≤ 113 := by
  constructor
  · intro f
    have hw : pg_k (pt_T t M n) c = 11 ∨ pg_k (pt_T t M n) c = 12 ∨ pg_k (pt_T t M n) c = 13 := by
      unfold pg_any at f
      simpa using f
    have hl : pg_live (pt_T t M n) c := by rcases hw with z | z | z <;> exact (pg_kl z (by decide)).1
    have z := rp_l0 e hl
    refine ⟨z, ?_⟩
    rw [rp_tk e z]
    exact (rx_ty _ (rp_k6 hN e z).1).mpr hw
  · intro f
    have h2 := f.2
    rw [rp_tk e f.1] at h2
    have h3 := (rx_ty _ (rp_k6 hN e f.1).1).mp h2
    unfold pg_any
    simpa using h3
theorem rp_anyl {t : Nat → Nat} {M n : Nat} {c : pg_C} {ks : List Nat} (f : pg_any (pt_T t M n) ks c = true) (h : ks.contains 44 = false ∧ ks.contains 45 = false ∧ ks.contains 46 = false) : pg_live (pt_T t M n) c ∧ (pt_T t M n).1 c.1 ≠ 44 := by
  unfold pg_any at f
  refine pg_kl rfl ⟨fun z => ?_, fun z => ?_, fun z => ?_⟩
  · rw [z, h.1] at f; cases f
  · rw [z, h.2.1] at f; cases f
  · rw [z, h.2.2] at f; cases f
theorem rp231 {d : Nat} {σ : pm_S} {Q : Option Value → pm_S → Prop} {t : Nat → Nat} {M n : Nat} {c : pg_C} {h : rp_H} {s to : Nat} (hN : rp_n t M n) (hs : s ≤ 2900) (ht : to < h.1) (hS : rp_S t M n σ c h s) (hQ : ∀ σ' h', rp_S t M n σ' (pg_simple (pt_T t M n) c).1 h' (s + 1) → rp_E t M n σ h σ' h' to (pg_simple (pt_T t M n) c).2 → Q none σ') : pm_call pm_Y0 (d + 7) 231 [.ref 10, .int (nI to)] σ Q := by
  have e0 := rp_b0 ht hS
  have hty := rp_tye hN hS
  have hno : ¬ pg_any (pt_T t M n) [11, 12, 13] c = true → ∀ σ' h', rp_S t M n σ' (pg_stop c) h' s → rp_E t M n σ h σ' h' to [] → Q none σ' := fun q σ' h' a b => by
    have q' : pg_any (pt_T t M n) [11, 12, 13] c = false := by simpa using q
    exact hQ σ' h' (rp_Se a (by simp only [pg_simple, pg_ite, pg_tok, q', if_false, Bool.false_eq_true]) (by omega)) (rp_Ee b (by simp only [pg_simple, pg_ite, pg_tok, q', if_false, Bool.false_eq_true]))
  refine wq_m m231 (Nat.le_of_ble_eq_true rfl) (by decide) rfl ?_
  refine wq_l 1 d231_0 rfl rfl rfl rfl ?_
  refine wq_gi (ci := 10) (j := 3) 4 d231_1 rfl rfl rfl rfl ?_
  refine wq_k 6 111 d231_4 (by decide) rfl ?_
  refine wq_b 51 9 d231_6 rfl (by decide) rfl (fun c6 => ?_) (fun c6 => ?_)
  · -- pc 51
    have fb : ¬ pg_any (pt_T t M n) [11, 12, 13] c = true := fun q => by
      have q2 := hty.mp q
      first | exact z22 q2.1 | (simp only [i_lt, i_le, i_eq, ne_eq, Int32.reduceToInt, b2_0, b2_1, decide_eq_true_eq, decide_eq_false_iff_not, Bool.not_eq_true, Bool.not_eq_false] at * <;> omega)
    refine wq_l 52 d231_51 rfl rfl rfl rfl ?_
    refine wq_v 55 [] d231_52 rfl rfl m230 rfl rfl (Nat.le_of_ble_eq_true rfl) rfl (rp_ref hN hS (fun σ52 h52 k52 => ?_))
    have e52 := rp_Et ht e0 (rp_Ek k52)
    refine wq_rv d231_55 ?_
    exact hno fb _ _ h52 e52
  · -- pc 9
    refine wq_l 10 d231_9 rfl rfl rfl rfl ?_
    refine wq_gi (ci := 10) (j := 3) 13 d231_10 rfl rfl rfl rfl ?_
    refine wq_k 15 113 d231_13 (by decide) rfl ?_
    refine wq_b 51 18 d231_15 rfl (by decide) rfl (fun c15 => ?_) (fun c15 => ?_)
    · -- pc 51
      have fb : ¬ pg_any (pt_T t M n) [11, 12, 13] c = true := fun q => by
        have q2 := hty.mp q
        first | exact z22 q2.1 | (simp only [i_lt, i_le, i_eq, ne_eq, Int32.reduceToInt, b2_0, b2_1, decide_eq_true_eq, decide_eq_false_iff_not, Bool.not_eq_true, Bool.not_eq_false] at * <;> omega)
      refine wq_l 52 d231_51 rfl rfl rfl rfl ?_
      refine wq_v 55 [] d231_52 rfl rfl m230 rfl rfl (Nat.le_of_ble_eq_true rfl) rfl (rp_ref hN hS (fun σ52 h52 k52 => ?_))
      have e52 := rp_Et ht e0 (rp_Ek k52)
      refine wq_rv d231_55 ?_
      exact hno fb _ _ h52 e52
    · -- pc 18
      refine wq_l 19 d231_18 rfl rfl rfl rfl ?_
      refine wq_gi (ci := 10) (j := 6) 22 d231_19 rfl rfl rfl rfl ?_
      refine wq_b 51 25 d231_22 rfl (by decide) rfl (fun c22 => ?_) (fun c22 => ?_)
      · -- pc 51
        have z22 : ¬ _ := c22; have f22 := rp_dd hS z22
        have fb : ¬ pg_any (pt_T t M n) [11, 12, 13] c = true := fun q => by
          have q2 := hty.mp q
          first | exact z22 q2.1 | (simp only [i_lt, i_le, i_eq, ne_eq, Int32.reduceToInt, b2_0, b2_1, decide_eq_true_eq, decide_eq_false_iff_not, Bool.not_eq_true, Bool.not_eq_false] at * <;> omega)
        refine wq_l 52 d231_51 rfl rfl rfl rfl ?_
        refine wq_v 55 [] d231_52 rfl rfl m230 rfl rfl (Nat.le_of_ble_eq_true rfl) rfl (rp_ref hN hS (fun σ52 h52 k52 => ?_))
        have e52 := rp_Et ht e0 (rp_Ek k52)
        refine wq_rv d231_55 ?_
        exact hno fb _ _ h52 e52
      · -- pc 25
        have z22 := Classical.not_not.mp c22; have f22 := rp_lv hS z22
        have fa : pg_any (pt_T t M n) [11, 12, 13] c = true := hty.mpr ⟨z22, by simp only [i_lt, i_le, i_eq, ne_eq, Int32.reduceToInt, b2_0, b2_1, decide_eq_true_eq, decide_eq_false_iff_not, Bool.not_eq_true, Bool.not_eq_false] at * <;> omega⟩
        have tyv : rp_V t M n 8 (σ.1 10 3 - 111) (nI (pg_k (pt_T t M n) c - 11)) := by
          rw [rp_tk hS z22, rx_ts _ (rp_k6 hN hS z22).1 ((rx_ty _ (rp_k6 hN hS z22).1).mp (by rw [← rp_tk hS z22]; exact (hty.mp fa).2))]
          exact rp_V0 (by decide)
        refine wq_l 26 d231_25 rfl rfl rfl rfl ?_
        refine wq_l 27 d231_26 rfl rfl rfl rfl ?_
        refine wq_k 29 8 d231_27 (by decide) rfl ?_
        refine wq_l 30 d231_29 rfl rfl rfl rfl ?_
        refine wq_gi (ci := 10) (j := 4) 33 d231_30 rfl rfl rfl rfl ?_
        refine wq_l 34 d231_33 rfl rfl rfl rfl ?_
        refine wq_gi (ci := 10) (j := 3) 37 d231_34 rfl rfl rfl rfl ?_
        refine wq_k 39 111 d231_37 (by decide) rfl ?_
        refine wq_a 40 d231_39 rfl rfl ?_
        refine wq_v 43 [_, _, _, _] d231_40 rfl rfl m226 rfl rfl (Nat.le_of_ble_eq_true rfl) rfl (rp_mkin (to := to) hN (by omega) (Nat.lt_of_lt_of_le ht e0.2.1) hS (fun σ40 h40 m40 => ?_))
        have e40o := rp_h0 h40
        have m40c := rp_Et ht e0 (rp_Mn (k := 8) (v := nI (pg_k (pt_T t M n) c - 11)) (Nat.lt_of_lt_of_le ht e0.2.1) m40 e40o (fun z => ⟨rfl, rp_pl hS (m40.2.1 z), tyv⟩))
        refine wq_a 44 d231_43 rfl rfl ?_
        refine wq_l 45 d231_44 rfl rfl rfl rfl ?_
        refine wq_v 48 [] d231_45 rfl rfl m203 rfl rfl (Nat.le_of_ble_eq_true rfl) rfl (rp_go hN (rp_anyl fa (by decide)) h40 (fun σ45 h45 k45 => ?_))
        have e45 := rp_Et ht m40c (rp_Ek k45)
        refine wq_g 55 d231_48 (by decide) ?_
        refine wq_rv d231_55 ?_
        exact hQ _ _ (rp_Se h45 (by first | rfl | (simp only [pg_simple, pg_ite, pg_leaf, fa, if_true, if_false, Bool.false_eq_true, Bool.true_eq_false, ite_self]; done)) (by omega)) (rp_Ee e45 (by first | rfl | (simp only [pg_simple, pg_ite, pg_leaf, fa, if_true, if_false, Bool.false_eq_true, Bool.true_eq_false, ite_self, List.append_assoc, List.nil_append, List.append_nil, List.cons_append, List.singleton_append, List.length_append, List.length_cons, List.length_nil, List.length_singleton, Nat.zero_add, Nat.reduceAdd]; done)))
theorem rp234 {d : Nat} {σ : pm_S} {Q : Option Value → pm_S → Prop} {t : Nat → Nat} {M n : Nat} {c : pg_C} {h : rp_H} {s to : Nat} (hN : rp_n t M n) (hs : s ≤ 2900) (ht : to < h.1) (hS : rp_S t M n σ c h s) (hQ : ∀ σ' h', rp_S t M n σ' (pg_const (pt_T t M n) c).1 h' (s + 1) → rp_E t M n σ h σ' h' to (pg_const (pt_T t M n) c).2 → Q none σ') : pm_call pm_Y0 (d + 8) 234 [.ref 10, .int (nI to)] σ Q := by
  have e0 := rp_b0 ht hS
  have hcn : ∀ (b : Bool), pg_any (pt_T t M n) [35, 36] c = (pg_is (pt_T t M n) 35 c || pg_is (pt_T t M n) 36 c) := fun _ => by
    unfold pg_any pg_is
    rw [List.contains_cons, List.contains_cons]
    simp only [List.contains_nil, Bool.or_false]
  refine wq_m m234 (Nat.le_of_ble_eq_true rfl) (by decide) rfl ?_
  refine wq_l 1 d234_0 rfl rfl rfl rfl ?_
  refine wq_gi (ci := 10) (j := 4) 4 d234_1 rfl rfl rfl rfl ?_
  refine wq_s 5 d234_4 rfl rfl (Nat.le_of_ble_eq_true rfl) rfl rfl ?_
  refine wq_l 6 d234_5 rfl rfl rfl rfl ?_
  refine wq_k 9 135 d234_6 (by decide) rfl ?_
  refine wq_v 12 [_] d234_9 rfl rfl m224 rfl rfl (Nat.le_of_ble_eq_true rfl) rfl (rp_is (k := 35) hN (by decide) (by decide) hS ?_)
  refine wq_b 25 15 d234_12 rfl (by decide) rfl (fun c12 => ?_) (fun c12 => ?_)
  · -- pc 25
    have f12 := b2n c12
    refine wq_l 26 d234_25 rfl rfl rfl rfl ?_
    refine wq_l 27 d234_26 rfl rfl rfl rfl ?_
    refine wq_k 29 31 d234_27 (by decide) rfl ?_
    refine wq_l 30 d234_29 rfl rfl rfl rfl ?_
    refine wq_l 31 d234_30 rfl rfl rfl rfl ?_
    refine wq_k 34 135 d234_31 (by decide) rfl ?_
    refine wq_v 37 [_] d234_34 rfl rfl m224 rfl rfl (Nat.le_of_ble_eq_true rfl) rfl (rp_is (k := 35) hN (by decide) (by decide) hS ?_)
    refine wq_b 44 40 d234_37 rfl (by decide) rfl (fun c37 => ?_) (fun c37 => ?_)
    · -- pc 44
      have f37 := b2z c37
      refine wq_k 45 0 d234_44 (by decide) rfl ?_
      refine wq_v 48 [_, _, _, _] d234_45 rfl rfl m226 rfl rfl (Nat.le_of_ble_eq_true rfl) rfl (rp_mkin (to := to) hN (by omega) (Nat.lt_of_lt_of_le ht e0.2.1) hS (fun σ45 h45 m45 => ?_))
      have e45o := rp_h0 h45
      have m45c := rp_Et ht e0 (rp_Mn (k := 31) (v := if pg_is (pt_T t M n) 35 c = true then 1 else 0) (Nat.lt_of_lt_of_le ht e0.2.1) m45 e45o (fun z => ⟨rfl, rp_pl hS (m45.2.1 z), by first | (rw [f37]; exact rp_V0 (by decide))⟩))
      refine wq_a 49 d234_48 rfl rfl ?_
      refine wq_l 50 d234_49 rfl rfl rfl rfl ?_
      refine wq_v 53 [] d234_50 rfl rfl m203 rfl rfl (Nat.le_of_ble_eq_true rfl) rfl (rp_go hN (by first | exact pg_isl f12 (by decide) | exact pg_isl f22 (by decide)) h45 (fun σ50 h50 k50 => ?_))
      have e50 := rp_Et ht m45c (rp_Ek k50)
      refine wq_rv d234_53 ?_
      have fa : pg_any (pt_T t M n) [35, 36] c = true := by rw [hcn true]; first | (rw [f12]; rfl) | (rw [f22]; exact Bool.or_true _)
      exact hQ _ _ (rp_Se h50 (by first | rfl | (simp only [pg_const, pg_ite, pg_leaf, fa, if_true, if_false, Bool.false_eq_true, Bool.true_eq_false, ite_self, f12, f37]; done)) (by omega)) (rp_Ee e50 (by first | rfl | (simp only [pg_const, pg_ite, pg_leaf, fa, if_true, if_false, Bool.false_eq_true, Bool.true_eq_false, ite_self, List.append_assoc, List.nil_append, List.append_nil, List.cons_append, List.singleton_append, List.length_append, List.length_cons, List.length_nil, List.length_singleton, Nat.zero_add, Nat.reduceAdd, f12, f37]; done)))
    · -- pc 40
      have f37 := b2n c37
      refine wq_k 41 1 d234_40 (by decide) rfl ?_
      refine wq_g 45 d234_41 (by decide) ?_
      refine wq_v 48 [_, _, _, _] d234_45 rfl rfl m226 rfl rfl (Nat.le_of_ble_eq_true rfl) rfl (rp_mkin (to := to) hN (by omega) (Nat.lt_of_lt_of_le ht e0.2.1) hS (fun σ45 h45 m45 => ?_))
      have e45o := rp_h0 h45
      have m45c := rp_Et ht e0 (rp_Mn (k := 31) (v := if pg_is (pt_T t M n) 35 c = true then 1 else 0) (Nat.lt_of_lt_of_le ht e0.2.1) m45 e45o (fun z => ⟨rfl, rp_pl hS (m45.2.1 z), by first | (rw [f37]; exact rp_V0 (by decide))⟩))
      refine wq_a 49 d234_48 rfl rfl ?_
      refine wq_l 50 d234_49 rfl rfl rfl rfl ?_
      refine wq_v 53 [] d234_50 rfl rfl m203 rfl rfl (Nat.le_of_ble_eq_true rfl) rfl (rp_go hN (by first | exact pg_isl f12 (by decide) | exact pg_isl f22 (by decide)) h45 (fun σ50 h50 k50 => ?_))
      have e50 := rp_Et ht m45c (rp_Ek k50)
      refine wq_rv d234_53 ?_
      have fa : pg_any (pt_T t M n) [35, 36] c = true := by rw [hcn true]; first | (rw [f12]; rfl) | (rw [f22]; exact Bool.or_true _)
      exact hQ _ _ (rp_Se h50 (by first | rfl | (simp only [pg_const, pg_ite, pg_leaf, fa, if_true, if_false, Bool.false_eq_true, Bool.true_eq_false, ite_self, f12, f37]; done)) (by omega)) (rp_Ee e50 (by first | rfl | (simp only [pg_const, pg_ite, pg_leaf, fa, if_true, if_false, Bool.false_eq_true, Bool.true_eq_false, ite_self, List.append_assoc, List.nil_append, List.append_nil, List.cons_append, List.singleton_append, List.length_append, List.length_cons, List.length_nil, List.length_singleton, Nat.zero_add, Nat.reduceAdd, f12, f37]; done)))
  · -- pc 15
    have f12 := b2y c12
    refine wq_l 16 d234_15 rfl rfl rfl rfl ?_
    refine wq_k 19 136 d234_16 (by decide) rfl ?_
    refine wq_v 22 [_] d234_19 rfl rfl m224 rfl rfl (Nat.le_of_ble_eq_true rfl) rfl (rp_is (k := 36) hN (by decide) (by decide) hS ?_)
    refine wq_b 54 25 d234_22 rfl (by decide) rfl (fun c22 => ?_) (fun c22 => ?_)
    · -- pc 54
      have f22 := b2z c22
      refine wq_l 55 d234_54 rfl rfl rfl rfl ?_
      refine wq_k 58 245 d234_55 (by decide) rfl ?_
      refine wq_v 61 [_] d234_58 rfl rfl m233 rfl rfl (Nat.le_of_ble_eq_true rfl) rfl (rp_take (k := 61) hN (by decide) (by decide) hS (fun σ58 h58 k58 => ?_))
      have e58 := rp_Et ht e0 (rp_Ek k58)
      refine wq_s 62 d234_61 rfl rfl (Nat.le_of_ble_eq_true rfl) rfl rfl ?_
      refine wq_l 63 d234_62 rfl rfl rfl rfl ?_
      refine wq_gi (ci := 10) (j := 5) 66 d234_63 rfl rfl rfl rfl ?_
      refine wq_s 68 d234_66 rfl rfl (Nat.le_of_ble_eq_true rfl) rfl rfl ?_
      refine wq_l 69 d234_68 rfl rfl rfl rfl ?_
      refine wq_k 70 2 d234_69 (by decide) rfl ?_
      refine wq_v 73 [_] d234_70 rfl rfl m229 rfl rfl (Nat.le_of_ble_eq_true rfl) rfl (rp_want (k := 42) hN (by decide) (by decide) h58 (fun σ70 h70 k70 => ?_))
      have e70 := rp_Et ht e58 (rp_Ek k70)
      refine wq_l 74 d234_73 rfl rfl rfl rfl ?_
      refine wq_l 75 d234_74 rfl rfl rfl rfl ?_
      refine wq_k 77 30 d234_75 (by decide) rfl ?_
      refine wq_l 78 d234_77 rfl rfl rfl rfl ?_
      refine wq_l 79 d234_78 rfl rfl rfl rfl ?_
      have fa : pg_any (pt_T t M n) [35, 36] c = false := by rw [hcn true, f12, f22]; rfl
      refine wq_b 88 82 d234_79 rfl (by decide) rfl (fun c79 => ?_) (fun c79 => ?_)
      · -- pc 88
        have f79 := b2z c79
        have f58 : pg_is (pt_T t M n) 61 c = false := b2z c79
        rw [f58] at h58 h70
        have nv : σ70.1 10 6 = 0 → rp_V t M n 30 (σ58.1 10 5) (pg_v (pt_T t M n) c) := fun z => (rp_nu (k := 30) (Or.inl rfl) (by decide) h58 h70 z).2
        refine wq_l 90 d234_88 rfl rfl rfl rfl ?_
        refine wq_v 93 [_, _, _, _] d234_90 rfl rfl m226 rfl rfl (Nat.le_of_ble_eq_true rfl) rfl (rp_mkin (to := to) hN (by omega) (Nat.lt_of_lt_of_le ht e70.2.1) h70 (fun σ90 h90 m90 => ?_))
        have e90o := rp_h0 h90
        have m90c := rp_Et ht e70 (rp_Mn (k := 30) (Nat.lt_of_lt_of_le ht e70.2.1) m90 e90o (fun z => ⟨rfl, rp_pl hS (k58.2 (k70.2 (m90.2.1 z))), nv (m90.2.1 z)⟩))
        refine wq_a 94 d234_93 rfl rfl ?_
        refine wq_rv d234_94 ?_
        exact hQ _ _ (rp_Se h90 (by first | rfl | (simp only [pg_const, pg_ite, pg_leaf, fa, if_true, if_false, Bool.false_eq_true, Bool.true_eq_false, ite_self, f12, f22, f79]; done)) (by omega)) (rp_Ee m90c (by first | rfl | (simp only [pg_const, pg_ite, pg_leaf, fa, if_true, if_false, Bool.false_eq_true, Bool.true_eq_false, ite_self, List.append_assoc, List.nil_append, List.append_nil, List.cons_append, List.singleton_append, List.length_append, List.length_cons, List.length_nil, List.length_singleton, Nat.zero_add, Nat.reduceAdd, f12, f22, f79]; done)))
      · -- pc 82
        have f79 := b2n c79
        have f58 : pg_is (pt_T t M n) 61 c = true := b2n c79
        rw [f58] at h58 h70
        have nv : σ70.1 10 6 = 0 → rp_V t M n 30 (-(σ58.1 10 5)) (- pg_v (pt_T t M n) (pg_stp c)) := fun z => by rw [(rp_nu (k := 30) (Or.inl rfl) (by decide) h58 h70 z).1]; exact rp_V0 (by decide)
        refine wq_l 84 d234_82 rfl rfl rfl rfl ?_
        refine wq_a 85 d234_84 rfl rfl ?_
        refine wq_g 90 d234_85 (by decide) ?_
        refine wq_v 93 [_, _, _, _] d234_90 rfl rfl m226 rfl rfl (Nat.le_of_ble_eq_true rfl) rfl (rp_mkin (to := to) hN (by omega) (Nat.lt_of_lt_of_le ht e70.2.1) h70 (fun σ90 h90 m90 => ?_))
        have e90o := rp_h0 h90
        have m90c := rp_Et ht e70 (rp_Mn (k := 30) (Nat.lt_of_lt_of_le ht e70.2.1) m90 e90o (fun z => ⟨rfl, rp_pl hS (k58.2 (k70.2 (m90.2.1 z))), nv (m90.2.1 z)⟩))
        refine wq_a 94 d234_93 rfl rfl ?_
        refine wq_rv d234_94 ?_
        exact hQ _ _ (rp_Se h90 (by first | rfl | (simp only [pg_const, pg_ite, pg_leaf, fa, if_true, if_false, Bool.false_eq_true, Bool.true_eq_false, ite_self, f12, f22, f79]; done)) (by omega)) (rp_Ee m90c (by first | rfl | (simp only [pg_const, pg_ite, pg_leaf, fa, if_true, if_false, Bool.false_eq_true, Bool.true_eq_false, ite_self, List.append_assoc, List.nil_append, List.append_nil, List.cons_append, List.singleton_append, List.length_append, List.length_cons, List.length_nil, List.length_singleton, Nat.zero_add, Nat.reduceAdd, f12, f22, f79]; done)))
    · -- pc 25
      have f22 := b2n c22
      refine wq_l 26 d234_25 rfl rfl rfl rfl ?_
      refine wq_l 27 d234_26 rfl rfl rfl rfl ?_
      refine wq_k 29 31 d234_27 (by decide) rfl ?_
      refine wq_l 30 d234_29 rfl rfl rfl rfl ?_
      refine wq_l 31 d234_30 rfl rfl rfl rfl ?_
      refine wq_k 34 135 d234_31 (by decide) rfl ?_
      refine wq_v 37 [_] d234_34 rfl rfl m224 rfl rfl (Nat.le_of_ble_eq_true rfl) rfl (rp_is (k := 35) hN (by decide) (by decide) hS ?_)
      refine wq_b 44 40 d234_37 rfl (by decide) rfl (fun c37 => ?_) (fun c37 => ?_)
      · -- pc 44
        have f37 := b2z c37
        refine wq_k 45 0 d234_44 (by decide) rfl ?_
        refine wq_v 48 [_, _, _, _] d234_45 rfl rfl m226 rfl rfl (Nat.le_of_ble_eq_true rfl) rfl (rp_mkin (to := to) hN (by omega) (Nat.lt_of_lt_of_le ht e0.2.1) hS (fun σ45 h45 m45 => ?_))
        have e45o := rp_h0 h45
        have m45c := rp_Et ht e0 (rp_Mn (k := 31) (v := if pg_is (pt_T t M n) 35 c = true then 1 else 0) (Nat.lt_of_lt_of_le ht e0.2.1) m45 e45o (fun z => ⟨rfl, rp_pl hS (m45.2.1 z), by first | (rw [f37]; exact rp_V0 (by decide))⟩))
        refine wq_a 49 d234_48 rfl rfl ?_
        refine wq_l 50 d234_49 rfl rfl rfl rfl ?_
        refine wq_v 53 [] d234_50 rfl rfl m203 rfl rfl (Nat.le_of_ble_eq_true rfl) rfl (rp_go hN (by first | exact pg_isl f12 (by decide) | exact pg_isl f22 (by decide)) h45 (fun σ50 h50 k50 => ?_))
        have e50 := rp_Et ht m45c (rp_Ek k50)
        refine wq_rv d234_53 ?_
        have fa : pg_any (pt_T t M n) [35, 36] c = true := by rw [hcn true]; first | (rw [f12]; rfl) | (rw [f22]; exact Bool.or_true _)
        exact hQ _ _ (rp_Se h50 (by first | rfl | (simp only [pg_const, pg_ite, pg_leaf, fa, if_true, if_false, Bool.false_eq_true, Bool.true_eq_false, ite_self, f12, f22, f37]; done)) (by omega)) (rp_Ee e50 (by first | rfl | (simp only [pg_const, pg_ite, pg_leaf, fa, if_true, if_false, Bool.false_eq_true, Bool.true_eq_false, ite_self, List.append_assoc, List.nil_append, List.append_nil, List.cons_append, List.singleton_append, List.length_append, List.length_cons, List.length_nil, List.length_singleton, Nat.zero_add, Nat.reduceAdd, f12, f22, f37]; done)))
      · -- pc 40
        have f37 := b2n c37
        refine wq_k 41 1 d234_40 (by decide) rfl ?_
        refine wq_g 45 d234_41 (by decide) ?_
        refine wq_v 48 [_, _, _, _] d234_45 rfl rfl m226 rfl rfl (Nat.le_of_ble_eq_true rfl) rfl (rp_mkin (to := to) hN (by omega) (Nat.lt_of_lt_of_le ht e0.2.1) hS (fun σ45 h45 m45 => ?_))
        have e45o := rp_h0 h45
        have m45c := rp_Et ht e0 (rp_Mn (k := 31) (v := if pg_is (pt_T t M n) 35 c = true then 1 else 0) (Nat.lt_of_lt_of_le ht e0.2.1) m45 e45o (fun z => ⟨rfl, rp_pl hS (m45.2.1 z), by first | (rw [f37]; exact rp_V0 (by decide))⟩))
        refine wq_a 49 d234_48 rfl rfl ?_
        refine wq_l 50 d234_49 rfl rfl rfl rfl ?_
        refine wq_v 53 [] d234_50 rfl rfl m203 rfl rfl (Nat.le_of_ble_eq_true rfl) rfl (rp_go hN (by first | exact pg_isl f12 (by decide) | exact pg_isl f22 (by decide)) h45 (fun σ50 h50 k50 => ?_))
        have e50 := rp_Et ht m45c (rp_Ek k50)
        refine wq_rv d234_53 ?_
        have fa : pg_any (pt_T t M n) [35, 36] c = true := by rw [hcn true]; first | (rw [f12]; rfl) | (rw [f22]; exact Bool.or_true _)
        exact hQ _ _ (rp_Se h50 (by first | rfl | (simp only [pg_const, pg_ite, pg_leaf, fa, if_true, if_false, Bool.false_eq_true, Bool.true_eq_false, ite_self, f12, f22, f37]; done)) (by omega)) (rp_Ee e50 (by first | rfl | (simp only [pg_const, pg_ite, pg_leaf, fa, if_true, if_false, Bool.false_eq_true, Bool.true_eq_false, ite_self, List.append_assoc, List.nil_append, List.append_nil, List.cons_append, List.singleton_append, List.length_append, List.length_cons, List.length_nil, List.length_singleton, Nat.zero_add, Nat.reduceAdd, f12, f22, f37]; done)))
theorem rp260 {d : Nat} {σ : pm_S} {Q : Option Value → pm_S → Prop} {t : Nat → Nat} {M n : Nat} {c : pg_C} {h : rp_H} {s to : Nat} (hN : rp_n t M n) (hs : s ≤ 2900) (ht : to < h.1) (hS : rp_S t M n σ c h s) (hQ : ∀ σ' h', rp_S t M n σ' (pg_const (pt_T t M n) c).1 h' (s + 1) → rp_E t M n σ h σ' h' to (pg_const (pt_T t M n) c).2 → Q none σ') : pm_call pm_Y0 (d + 9) 260 [.ref 10, .int (nI to)] σ Q := by
  have e0 := rp_b0 ht hS
  refine wq_m m260 (Nat.le_of_ble_eq_true rfl) (by decide) rfl ?_
  refine wq_l 1 d260_0 rfl rfl rfl rfl ?_
  refine wq_gi (ci := 10) (j := 6) 4 d260_1 rfl rfl rfl rfl ?_
  refine wq_b 12 7 d260_4 rfl (by decide) rfl (fun c4 => ?_) (fun c4 => ?_)
  · -- pc 12
    have z4 : ¬ _ := c4; have f4 := rp_dd hS z4
    refine wq_rv d260_12 ?_
    exact hQ _ _ (rp_Sd hS f4 (pg_dconst _ c f4) (by omega)) (rp_El e0 z4)
  · -- pc 7
    have z4 := Classical.not_not.mp c4; have f4 := rp_lv hS z4
    refine wq_l 8 d260_7 rfl rfl rfl rfl ?_
    refine wq_l 9 d260_8 rfl rfl rfl rfl ?_
    refine wq_v 12 [_] d260_9 rfl rfl m234 rfl rfl (Nat.le_of_ble_eq_true rfl) rfl (rp234 hN (by omega) (Nat.lt_of_lt_of_le ht e0.2.1) hS (fun σ9 q9 h9 e9x => ?_))
    have e9 := rp_Et ht e0 (e9x)
    refine wq_rv d260_12 ?_
    exact hQ _ _ (rp_Se h9 (by first | rfl | (simp only [pg_const, if_true, if_false, Bool.false_eq_true, Bool.true_eq_false, ite_self]; done)) (by omega)) (rp_Ee e9 (by first | rfl | (simp only [pg_const, if_true, if_false, Bool.false_eq_true, Bool.true_eq_false, ite_self, List.append_assoc, List.nil_append, List.append_nil, List.cons_append, List.singleton_append, List.length_append, List.length_cons, List.length_nil, List.length_singleton, Nat.zero_add, Nat.reduceAdd]; done)))
