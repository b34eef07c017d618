/-! THE CLASS'S LEXER: places and amounts -/
def ls (σ : pm_S) (p : Nat) (a : Int64) : pm_S := pm_pl (pm_pi σ 2 7 (nI p)) 2 8 a
theorem ls_7 {σ : pm_S} {p : Nat} {a : Int64} : (ls σ p a).1 2 7 = nI p := rfl
theorem ls_8 {σ : pm_S} {p : Nat} {a : Int64} : (ls σ p a).2.1 2 8 = a := rfl
theorem ls_p7 {σ : pm_S} {p q : Nat} {a : Int64} : pm_pi (ls σ p a) 2 7 (nI q) = ls σ q a := by
  unfold ls pm_pl pm_pi
  refine Prod.ext ?_ rfl
  funext x y
  by_cases h : x = 2 <;> by_cases h' : y = 7 <;> simp [h, h']
theorem ls_p8 {σ : pm_S} {p : Nat} {a b : Int64} : pm_pl (ls σ p a) 2 8 b = ls σ p b := by
  unfold ls pm_pl pm_pi
  refine Prod.ext rfl (Prod.ext ?_ rfl)
  funext x y
  by_cases h : x = 2 <;> by_cases h' : y = 8 <;> simp [h, h']
theorem ls_id {σ : pm_S} {p : Nat} (h : σ.1 2 7 = nI p) : ls σ p (σ.2.1 2 8) = σ := by
  unfold ls pm_pl pm_pi
  refine Prod.ext ?_ (Prod.ext ?_ rfl)
  · funext x y
    by_cases h1 : x = 2 <;> by_cases h2 : y = 7 <;> simp [h1, h2, h]
  · funext x y
    by_cases h1 : x = 2 <;> by_cases h2 : y = 8 <;> simp [h1, h2]
theorem ls_T {σ : pm_S} {t : Nat → Nat} {M : Nat} {p : Nat} {a : Int64} (h : lx_T σ t M) : lx_T (ls σ p a) t M := h
theorem lc_le (x y : Int64) : lg_cmp x y ≤ 0 ↔ x.toInt ≤ y.toInt := by
  unfold lg_cmp
  rw [Int64.le_iff_toInt_le.symm]
  simp only [i_le]
  by_cases h : x > y
  · rw [if_pos h]
    have := Int64.lt_iff_toInt_lt.mp h
    rw [Int64.le_iff_toInt_le]
    constructor
    · intro z; exact absurd z (by decide)
    · intro z; omega
  · rw [if_neg h]
    have : ¬ y.toInt < x.toInt := fun z => h (Int64.lt_iff_toInt_lt.mpr z)
    rw [Int64.le_iff_toInt_le]
    refine ⟨fun _ => by omega, fun _ => ?_⟩
    split <;> decide
theorem lc_gt (x y : Int64) : 0 < lg_cmp x y ↔ y.toInt < x.toInt := by
  have := lc_le x y
  rw [i_lt]
  rw [i_le] at this
  have e : (0 : Int32).toInt = 0 := rfl
  omega
theorem lc_eq (x y : Int64) : lg_cmp x y = 0 ↔ x.toInt = y.toInt := by
  rw [Int64.toInt_inj]
  unfold lg_cmp
  by_cases h : x > y
  · rw [if_pos h]
    have := Int64.lt_iff_toInt_lt.mp h
    constructor
    · intro z; exact absurd z (by decide)
    · intro z; subst z; omega
  · rw [if_neg h]
    by_cases h2 : x = y
    · simp [h2]
    · simp [h2]
theorem lN_t {n : Nat} (h : n < 2 ^ 62) : (lN n).toInt = n := by
  exact Int64.toInt_ofNat_of_lt (by omega)
theorem lN_min {a b : Nat} (ha : a < 2 ^ 62) (hb : b < 2 ^ 62) : (if lN b < lN a then lN b else lN a) = lN (min a b) := by
  have h : lN b < lN a ↔ b < a := by rw [Int64.lt_iff_toInt_lt, lN_t ha, lN_t hb]; omega
  by_cases q : b < a
  · rw [if_pos (h.mpr q), show min a b = b by omega]
  · rw [if_neg (fun z => q (h.mp z)), show min a b = a by omega]
theorem lx_dk_le (b : Nat) : lx_dk b ≤ 16 := by
  unfold lx_dk
  split
  · omega
  · split
    · omega
    · exact Nat.le_refl _
theorem d32_0 : decode prog_9_method_25_code 0 = .ok (.aload_n 0, 1) := by decide +kernel
theorem d32_1 : decode prog_9_method_25_code 1 = .ok (.getfield 36, 3) := by decide +kernel
theorem d32_4 : decode prog_9_method_25_code 4 = .ok (.istore_n 2, 1) := by decide +kernel
theorem d32_5 : decode prog_9_method_25_code 5 = .ok (.aload_n 0, 1) := by decide +kernel
theorem d32_6 : decode prog_9_method_25_code 6 = .ok (.lconst 0, 1) := by decide +kernel
theorem d32_7 : decode prog_9_method_25_code 7 = .ok (.putfield 39, 3) := by decide +kernel
theorem d32_10 : decode prog_9_method_25_code 10 = .ok (.aload_n 0, 1) := by decide +kernel
theorem d32_11 : decode prog_9_method_25_code 11 = .ok (.getfield 36, 3) := by decide +kernel
theorem d32_14 : decode prog_9_method_25_code 14 = .ok (.aload_n 0, 1) := by decide +kernel
theorem d32_15 : decode prog_9_method_25_code 15 = .ok (.getfield 33, 3) := by decide +kernel
theorem d32_18 : decode prog_9_method_25_code 18 = .ok (.if_icmp .ge 63, 3) := by decide +kernel
theorem d32_21 : decode prog_9_method_25_code 21 = .ok (.aload_n 0, 1) := by decide +kernel
theorem d32_22 : decode prog_9_method_25_code 22 = .ok (.getfield 9, 3) := by decide +kernel
theorem d32_25 : decode prog_9_method_25_code 25 = .ok (.aload_n 0, 1) := by decide +kernel
theorem d32_26 : decode prog_9_method_25_code 26 = .ok (.getfield 36, 3) := by decide +kernel
theorem d32_29 : decode prog_9_method_25_code 29 = .ok (.caload, 1) := by decide +kernel
theorem d32_30 : decode prog_9_method_25_code 30 = .ok (.invokestatic 126, 3) := by decide +kernel
theorem d32_33 : decode prog_9_method_25_code 33 = .ok (.iload_n 1, 1) := by decide +kernel
theorem d32_34 : decode prog_9_method_25_code 34 = .ok (.if_icmp .ge 47, 3) := by decide +kernel
theorem d32_37 : decode prog_9_method_25_code 37 = .ok (.aload_n 0, 1) := by decide +kernel
theorem d32_38 : decode prog_9_method_25_code 38 = .ok (.aload_n 0, 1) := by decide +kernel
theorem d32_39 : decode prog_9_method_25_code 39 = .ok (.getfield 39, 3) := by decide +kernel
theorem d32_42 : decode prog_9_method_25_code 42 = .ok (.iload_n 1, 1) := by decide +kernel
theorem d32_43 : decode prog_9_method_25_code 43 = .ok (.i2l, 1) := by decide +kernel
theorem d32_44 : decode prog_9_method_25_code 44 = .ok (.lmul, 1) := by decide +kernel
theorem d32_45 : decode prog_9_method_25_code 45 = .ok (.aload_n 0, 1) := by decide +kernel
theorem d32_46 : decode prog_9_method_25_code 46 = .ok (.getfield 9, 3) := by decide +kernel
theorem d32_49 : decode prog_9_method_25_code 49 = .ok (.aload_n 0, 1) := by decide +kernel
theorem d32_50 : decode prog_9_method_25_code 50 = .ok (.getfield 36, 3) := by decide +kernel
theorem d32_53 : decode prog_9_method_25_code 53 = .ok (.caload, 1) := by decide +kernel
theorem d32_54 : decode prog_9_method_25_code 54 = .ok (.invokestatic 126, 3) := by decide +kernel
theorem d32_57 : decode prog_9_method_25_code 57 = .ok (.i2l, 1) := by decide +kernel
theorem d32_58 : decode prog_9_method_25_code 58 = .ok (.ladd, 1) := by decide +kernel
theorem d32_59 : decode prog_9_method_25_code 59 = .ok (.ldc2_w 130, 3) := by decide +kernel
theorem d32_62 : decode prog_9_method_25_code 62 = .ok (.invokestatic 132, 3) := by decide +kernel
theorem d32_65 : decode prog_9_method_25_code 65 = .ok (.putfield 39, 3) := by decide +kernel
theorem d32_68 : decode prog_9_method_25_code 68 = .ok (.aload_n 0, 1) := by decide +kernel
theorem d32_69 : decode prog_9_method_25_code 69 = .ok (.dup, 1) := by decide +kernel
theorem d32_70 : decode prog_9_method_25_code 70 = .ok (.getfield 36, 3) := by decide +kernel
theorem d32_73 : decode prog_9_method_25_code 73 = .ok (.iconst 1, 1) := by decide +kernel
theorem d32_74 : decode prog_9_method_25_code 74 = .ok (.iadd, 1) := by decide +kernel
theorem d32_75 : decode prog_9_method_25_code 75 = .ok (.putfield 36, 3) := by decide +kernel
theorem d32_78 : decode prog_9_method_25_code 78 = .ok (.goto (-68), 3) := by decide +kernel
theorem d32_81 : decode prog_9_method_25_code 81 = .ok (.aload_n 0, 1) := by decide +kernel
theorem d32_82 : decode prog_9_method_25_code 82 = .ok (.getfield 36, 3) := by decide +kernel
theorem d32_85 : decode prog_9_method_25_code 85 = .ok (.iload_n 2, 1) := by decide +kernel
theorem d32_86 : decode prog_9_method_25_code 86 = .ok (.isub, 1) := by decide +kernel
theorem d32_87 : decode prog_9_method_25_code 87 = .ok (.ireturn, 1) := by decide +kernel
theorem m32 : pm_m 32 = some (⟨"TypeRules$Tokens", "readDigits", "(I)I"⟩, prog_9_method_25_code, 3, (some FieldType.int), 2, 1, 3) := rfl
theorem lx_dl {d : Nat} {σ : pm_S} {Q : Option Value → pm_S → Prop} {t : Nat → Nat} {M b q : Nat} (hT : lx_T σ t M) (hb : 1 ≤ b ∧ b ≤ 16) : ∀ (n p x y : Nat), M - p = n → q ≤ p → p ≤ M + 3 → min x 4294967296 = min y 4294967296 → Q (some (.int (nI (lx_de t M b p - q)))) (ls σ (lx_de t M b p) (lN (min (lx_dv t M b p y) 4294967296))) → pm_WP pm_Y0 (pm_call pm_Y0 (d + 2)) 2 prog_9_method_25_code (some .int) Q 10 [.ref 2, .int (nI b), .int (nI q)] [] (ls σ p (lN (min x 4294967296))) := by
  obtain ⟨hL, hM, hc, ht⟩ := hT
  intro n
  induction n with
  | zero =>
    intro p x y hn hq hp hxy hQ
    have ep := nI_toInt (n := p) (by omega)
    have eM := nI_toInt (n := M) (by omega)
    rw [lx_de_u, if_neg (by omega), lx_dv_u, if_neg (by omega), ← hxy] at hQ
    refine wq_l 11 d32_10 rfl rfl rfl rfl ?_
    refine wq_gi (ci := 2) (j := 7) 14 d32_11 rfl rfl rfl rfl ?_
    rw [ls_7]
    refine wq_l 15 d32_14 rfl rfl rfl rfl ?_
    refine wq_gi (ci := 2) (j := 6) 18 d32_15 rfl rfl rfl rfl ?_
    rw [show (ls σ p (lN (min x 4294967296))).1 2 6 = nI M from hL]
    refine wq_b 81 21 d32_18 rfl (by decide) rfl (fun c18 => ?_) (fun c18 => absurd ((by simp only [i_lt, i_le, i_eq, ne_eq, Int32.reduceToInt, b2_0, b2_1, decide_eq_true_eq, decide_eq_false_iff_not, Bool.not_eq_true, Bool.not_eq_false] at * <;> omega)) c18)
    refine wq_l 82 d32_81 rfl rfl rfl rfl ?_
    refine wq_gi (ci := 2) (j := 7) 85 d32_82 rfl rfl rfl rfl ?_
    rw [ls_7]
    refine wq_l 86 d32_85 rfl rfl rfl rfl ?_
    refine wq_a 87 d32_86 rfl rfl ?_
    rw [pk_sub hq]
    refine wq_ri d32_87 (rfl) ?_
    exact hQ
  | succ n ih =>
    intro p x y hn hq hp hxy hQ
    have ep := nI_toInt (n := p) (by omega)
    have eM := nI_toInt (n := M) (by omega)
    have eb := nI_toInt (n := b) (by omega)
    have tp := ht p
    have dk := lx_dk_le (t p)
    have ed := nI_toInt (n := lx_dk (t p)) (by omega)
    refine wq_l 11 d32_10 rfl rfl rfl rfl ?_
    refine wq_gi (ci := 2) (j := 7) 14 d32_11 rfl rfl rfl rfl ?_
    rw [ls_7]
    refine wq_l 15 d32_14 rfl rfl rfl rfl ?_
    refine wq_gi (ci := 2) (j := 6) 18 d32_15 rfl rfl rfl rfl ?_
    rw [show (ls σ p (lN (min x 4294967296))).1 2 6 = nI M from hL]
    refine wq_b 81 21 d32_18 rfl (by decide) rfl (fun c18 => absurd c18 ((by simp only [i_lt, i_le, i_eq, ne_eq, Int32.reduceToInt, b2_0, b2_1, decide_eq_true_eq, decide_eq_false_iff_not, Bool.not_eq_true, Bool.not_eq_false] at * <;> omega))) (fun c18 => ?_)
    refine wq_l 22 d32_21 rfl rfl rfl rfl ?_
    refine wq_gr (ci := 2) (j := 0) (q := 11) 25 d32_22 rfl rfl rfl rfl ?_
    refine wq_l 26 d32_25 rfl rfl rfl rfl ?_
    refine wq_gi (ci := 2) (j := 7) 29 d32_26 rfl rfl rfl rfl ?_
    rw [ls_7]
    refine wq_al 30 d32_29 rfl rfl rfl (vp_in_iff.mpr (by simp only [i_lt, i_le, i_eq, ne_eq, Int32.reduceToInt, b2_0, b2_1, decide_eq_true_eq, decide_eq_false_iff_not, Bool.not_eq_true, Bool.not_eq_false] at * <;> omega)) ?_
    rw [nI_clamp (by omega), show (ls σ p (lN (min x 4294967296))).2.2 11 p = nI (t p) from hc p]
    refine wq_vs 33 [_] d32_30 rfl rfl m33 rfl (Nat.le_of_ble_eq_true rfl) rfl (sp33 tp ?_)
    refine wq_l 34 d32_33 rfl rfl rfl rfl ?_
    refine wq_b 81 37 d32_34 rfl (by decide) rfl (fun c34 => ?_) (fun c34 => ?_)
    · -- pc 81
      have hd : ¬ lx_dk (t p) < b := (by simp only [i_lt, i_le, i_eq, ne_eq, Int32.reduceToInt, b2_0, b2_1, decide_eq_true_eq, decide_eq_false_iff_not, Bool.not_eq_true, Bool.not_eq_false] at * <;> omega)
      rw [lx_de_u, if_neg (by omega), lx_dv_u, if_neg (by omega), ← hxy] at hQ
      refine wq_l 82 d32_81 rfl rfl rfl rfl ?_
      refine wq_gi (ci := 2) (j := 7) 85 d32_82 rfl rfl rfl rfl ?_
      rw [ls_7]
      refine wq_l 86 d32_85 rfl rfl rfl rfl ?_
      refine wq_a 87 d32_86 rfl rfl ?_
      rw [pk_sub hq]
      exact wq_ri d32_87 rfl hQ
    · -- pc 37
      have hd : lx_dk (t p) < b := (by simp only [i_lt, i_le, i_eq, ne_eq, Int32.reduceToInt, b2_0, b2_1, decide_eq_true_eq, decide_eq_false_iff_not, Bool.not_eq_true, Bool.not_eq_false] at * <;> omega)
      rw [lx_de_u, if_pos ⟨by omega, hd⟩, lx_dv_u, if_pos ⟨by omega, hd⟩] at hQ
      have hmul : min x 4294967296 * b ≤ 4294967296 * 16 := Nat.mul_le_mul (by omega) hb.2
      refine wq_l 38 d32_37 rfl rfl rfl rfl ?_
      refine wq_l 39 d32_38 rfl rfl rfl rfl ?_
      refine wq_gl (ci := 2) (j := 8) 42 d32_39 rfl rfl rfl rfl ?_
      rw [ls_8]
      refine wq_l 43 d32_42 rfl rfl rfl rfl ?_
      refine wq_a 44 d32_43 rfl rfl ?_
      refine wq_a 45 d32_44 rfl rfl ?_
      refine wq_l 46 d32_45 rfl rfl rfl rfl ?_
      refine wq_gr (ci := 2) (j := 0) (q := 11) 49 d32_46 rfl rfl rfl rfl ?_
      refine wq_l 50 d32_49 rfl rfl rfl rfl ?_
      refine wq_gi (ci := 2) (j := 7) 53 d32_50 rfl rfl rfl rfl ?_
      rw [ls_7]
      refine wq_al 54 d32_53 rfl rfl rfl (vp_in_iff.mpr (by simp only [i_lt, i_le, i_eq, ne_eq, Int32.reduceToInt, b2_0, b2_1, decide_eq_true_eq, decide_eq_false_iff_not, Bool.not_eq_true, Bool.not_eq_false] at * <;> omega)) ?_
      rw [nI_clamp (by omega), show (ls σ p (lN (min x 4294967296))).2.2 11 p = nI (t p) from hc p]
      refine wq_vs 57 [_] d32_54 rfl rfl m33 rfl (Nat.le_of_ble_eq_true rfl) rfl (sp33 tp ?_)
      refine wq_a 58 d32_57 rfl rfl ?_
      refine wq_a 59 d32_58 rfl rfl ?_
      rw [nI_l (by omega), nI_l (by omega), lN_mul, lN_add]
      refine wq_cl 62 d32_59 rfl rfl ?_
      refine wq_ml 65 d32_62 rfl (by decide) rfl ?_
      rw [show (4294967296 : Int64) = lN 4294967296 from rfl, lN_min (by omega) (by omega)]
      refine wq_pl (ci := 2) (j := 8) 68 d32_65 rfl rfl rfl rfl rfl ?_
      rw [ls_p8]
      refine wq_l 69 d32_68 rfl rfl rfl rfl ?_
      refine wq_a 70 d32_69 rfl rfl ?_
      refine wq_gi (ci := 2) (j := 7) 73 d32_70 rfl rfl rfl rfl ?_
      rw [ls_7]
      refine wq_k 74 1 d32_73 (by decide) rfl ?_
      refine wq_a 75 d32_74 rfl rfl ?_
      refine wq_pf (ci := 2) (j := 7) 78 d32_75 rfl rfl rfl ⟨rfl, rfl⟩ rfl ?_
      rw [show nI p + 1 = nI (p + 1) from (nI_succ p).symm, ls_p7]
      refine wq_g 10 d32_78 (by decide) ?_
      refine ih (p + 1) _ _ (by omega) (by omega) (by omega) (?_ : min (min x 4294967296 * b + lx_dk (t p)) 4294967296 = _) hQ
      exact lx_cut hb.1 hxy
theorem sp32 {d : Nat} {σ : pm_S} {Q : Option Value → pm_S → Prop} {t : Nat → Nat} {M b p : Nat} {a : Int64} (hT : lx_T σ t M) (hb : 1 ≤ b ∧ b ≤ 16) (hp : p ≤ M + 3) (hQ : Q (some (.int (nI (lx_de t M b p - p)))) (ls σ (lx_de t M b p) (lN (min (lx_dv t M b p 0) 4294967296)))) : pm_call pm_Y0 (d + 3) 32 [.ref 2, .int (nI b)] (ls σ p a) Q := by
  refine wq_m m32 (Nat.le_of_ble_eq_true rfl) (by decide) rfl ?_
  refine wq_l 1 d32_0 rfl rfl rfl rfl ?_
  refine wq_gi (ci := 2) (j := 7) 4 d32_1 rfl rfl rfl rfl ?_
  rw [ls_7]
  refine wq_s 5 d32_4 rfl rfl (Nat.le_of_ble_eq_true rfl) rfl rfl ?_
  refine wq_l 6 d32_5 rfl rfl rfl rfl ?_
  refine wq_a 7 d32_6 rfl rfl ?_
  refine wq_pl (ci := 2) (j := 8) 10 d32_7 rfl rfl rfl rfl rfl ?_
  rw [ls_p8]
  exact lx_dl hT hb (M - p) p 0 0 rfl (Nat.le_refl _) hp rfl hQ
theorem d35_0 : decode prog_9_method_27_code 0 = .ok (.aload_n 0, 1) := by decide +kernel
theorem d35_1 : decode prog_9_method_27_code 1 = .ok (.aload_n 0, 1) := by decide +kernel
theorem d35_2 : decode prog_9_method_27_code 2 = .ok (.getfield 36, 3) := by decide +kernel
theorem d35_5 : decode prog_9_method_27_code 5 = .ok (.invokevirtual 139, 3) := by decide +kernel
theorem d35_8 : decode prog_9_method_27_code 8 = .ok (.istore_n 1, 1) := by decide +kernel
theorem d35_9 : decode prog_9_method_27_code 9 = .ok (.iload_n 1, 1) := by decide +kernel
theorem d35_10 : decode prog_9_method_27_code 10 = .ok (.bipush 77, 2) := by decide +kernel
theorem d35_12 : decode prog_9_method_27_code 12 = .ok (.if_icmp .ne 30, 3) := by decide +kernel
theorem d35_15 : decode prog_9_method_27_code 15 = .ok (.aload_n 0, 1) := by decide +kernel
theorem d35_16 : decode prog_9_method_27_code 16 = .ok (.aload_n 0, 1) := by decide +kernel
theorem d35_17 : decode prog_9_method_27_code 17 = .ok (.getfield 36, 3) := by decide +kernel
theorem d35_20 : decode prog_9_method_27_code 20 = .ok (.iconst 1, 1) := by decide +kernel
theorem d35_21 : decode prog_9_method_27_code 21 = .ok (.iadd, 1) := by decide +kernel
theorem d35_22 : decode prog_9_method_27_code 22 = .ok (.invokevirtual 139, 3) := by decide +kernel
theorem d35_25 : decode prog_9_method_27_code 25 = .ok (.bipush 83, 2) := by decide +kernel
theorem d35_27 : decode prog_9_method_27_code 27 = .ok (.if_icmp .ne 15, 3) := by decide +kernel
theorem d35_30 : decode prog_9_method_27_code 30 = .ok (.aload_n 0, 1) := by decide +kernel
theorem d35_31 : decode prog_9_method_27_code 31 = .ok (.dup, 1) := by decide +kernel
theorem d35_32 : decode prog_9_method_27_code 32 = .ok (.getfield 36, 3) := by decide +kernel
theorem d35_35 : decode prog_9_method_27_code 35 = .ok (.iconst 2, 1) := by decide +kernel
theorem d35_36 : decode prog_9_method_27_code 36 = .ok (.iadd, 1) := by decide +kernel
theorem d35_37 : decode prog_9_method_27_code 37 = .ok (.putfield 36, 3) := by decide +kernel
theorem d35_40 : decode prog_9_method_27_code 40 = .ok (.iconst 1, 1) := by decide +kernel
theorem d35_41 : decode prog_9_method_27_code 41 = .ok (.ireturn, 1) := by decide +kernel
theorem d35_42 : decode prog_9_method_27_code 42 = .ok (.aload_n 0, 1) := by decide +kernel
theorem d35_43 : decode prog_9_method_27_code 43 = .ok (.dup, 1) := by decide +kernel
theorem d35_44 : decode prog_9_method_27_code 44 = .ok (.getfield 36, 3) := by decide +kernel
theorem d35_47 : decode prog_9_method_27_code 47 = .ok (.iconst 1, 1) := by decide +kernel
theorem d35_48 : decode prog_9_method_27_code 48 = .ok (.iadd, 1) := by decide +kernel
theorem d35_49 : decode prog_9_method_27_code 49 = .ok (.putfield 36, 3) := by decide +kernel
theorem d35_52 : decode prog_9_method_27_code 52 = .ok (.iload_n 1, 1) := by decide +kernel
theorem d35_53 : decode prog_9_method_27_code 53 = .ok (.lookupswitch 45 #[(72, 42), (77, 39), (83, 35)], 35) := by decide +kernel
theorem d35_88 : decode prog_9_method_27_code 88 = .ok (.sipush 1000, 3) := by decide +kernel
theorem d35_91 : decode prog_9_method_27_code 91 = .ok (.ireturn, 1) := by decide +kernel
theorem d35_92 : decode prog_9_method_27_code 92 = .ok (.ldc 142, 2) := by decide +kernel
theorem d35_94 : decode prog_9_method_27_code 94 = .ok (.ireturn, 1) := by decide +kernel
theorem d35_95 : decode prog_9_method_27_code 95 = .ok (.ldc 143, 2) := by decide +kernel
theorem d35_97 : decode prog_9_method_27_code 97 = .ok (.ireturn, 1) := by decide +kernel
theorem d35_98 : decode prog_9_method_27_code 98 = .ok (.iconst 0, 1) := by decide +kernel
theorem d35_99 : decode prog_9_method_27_code 99 = .ok (.ireturn, 1) := by decide +kernel
theorem m35 : pm_m 35 = some (⟨"TypeRules$Tokens", "readUnit", "()I"⟩, prog_9_method_27_code, 2, (some FieldType.int), 2, 0, 3) := rfl
theorem sp35 {d : Nat} {σ : pm_S} {Q : Option Value → pm_S → Prop} {t : Nat → Nat} {M p : Nat} {a : Int64} (hT : lx_T σ t M) (hp : p ≤ M + 3) (hQ : Q (some (.int (nI (lx_unit t M p).1))) (ls σ (p + (lx_unit t M p).2) a)) : pm_call pm_Y0 (d + 3) 35 [.ref 2] (ls σ p a) Q := by
  have hT' := hT
  obtain ⟨hL, hM, hc, ht⟩ := hT'
  have hT' : lx_T (ls σ p a) t M := hT
  have e0 := lx_gci (M := M) ht p
  have e1 := lx_gci (M := M) ht (p + 1)
  have h0 : (lx_gi t M p = 77 ∧ lx_gi t M (p + 1) = 83) → Q (some (.int (nI ((1, 2) : Nat × Nat).1))) (ls σ (p + ((1, 2) : Nat × Nat).2) a) := fun  qq => by rw [show lx_unit t M p = (1, 2) from if_pos qq] at hQ; exact hQ
  have h1 : ¬ (lx_gi t M p = 77 ∧ lx_gi t M (p + 1) = 83) → (lx_gi t M p = 83) → Q (some (.int (nI ((1000, 1) : Nat × Nat).1))) (ls σ (p + ((1000, 1) : Nat × Nat).2) a) := fun q0 qq => by rw [show lx_unit t M p = (1000, 1) from (if_neg q0).trans (if_pos qq)] at hQ; exact hQ
  have h2 : ¬ (lx_gi t M p = 77 ∧ lx_gi t M (p + 1) = 83) → ¬ (lx_gi t M p = 83) → (lx_gi t M p = 77) → Q (some (.int (nI ((60000, 1) : Nat × Nat).1))) (ls σ (p + ((60000, 1) : Nat × Nat).2) a) := fun q0 q1 qq => by rw [show lx_unit t M p = (60000, 1) from (if_neg q0).trans ((if_neg q1).trans (if_pos qq))] at hQ; exact hQ
  have h3 : ¬ (lx_gi t M p = 77 ∧ lx_gi t M (p + 1) = 83) → ¬ (lx_gi t M p = 83) → ¬ (lx_gi t M p = 77) → (lx_gi t M p = 72) → Q (some (.int (nI ((3600000, 1) : Nat × Nat).1))) (ls σ (p + ((3600000, 1) : Nat × Nat).2) a) := fun q0 q1 q2 qq => by rw [show lx_unit t M p = (3600000, 1) from (if_neg q0).trans ((if_neg q1).trans ((if_neg q2).trans (if_pos qq)))] at hQ; exact hQ
  have h4 : ¬ (lx_gi t M p = 77 ∧ lx_gi t M (p + 1) = 83) → ¬ (lx_gi t M p = 83) → ¬ (lx_gi t M p = 77) → ¬ (lx_gi t M p = 72) → Q (some (.int (nI ((0, 1) : Nat × Nat).1))) (ls σ (p + ((0, 1) : Nat × Nat).2) a) := fun q0 q1 q2 q3 => by rw [show lx_unit t M p = (0, 1) from (if_neg q0).trans ((if_neg q1).trans ((if_neg q2).trans ((if_neg q3).trans (rfl))))] at hQ; exact hQ
  clear hQ
  refine wq_m m35 (Nat.le_of_ble_eq_true rfl) (by decide) rfl ?_
  refine wq_l 1 d35_0 rfl rfl rfl rfl ?_
  refine wq_l 2 d35_1 rfl rfl rfl rfl ?_
  refine wq_gi (ci := 2) (j := 7) 5 d35_2 rfl rfl rfl rfl ?_
  rw [ls_7]
  refine wq_v 8 [_] d35_5 rfl rfl m36 rfl rfl (Nat.le_of_ble_eq_true rfl) rfl (sp36 hT' (by omega) ?_)
  refine wq_s 9 d35_8 rfl rfl (Nat.le_of_ble_eq_true rfl) rfl rfl ?_
  refine wq_l 10 d35_9 rfl rfl rfl rfl ?_
  refine wq_k 12 77 d35_10 (by decide) rfl ?_
  refine wq_b 42 15 d35_12 rfl (by decide) rfl (fun c12 => ?_) (fun c12 => ?_)
  · -- pc 42
    refine wq_l 43 d35_42 rfl rfl rfl rfl ?_
    refine wq_a 44 d35_43 rfl rfl ?_
    refine wq_gi (ci := 2) (j := 7) 47 d35_44 rfl rfl rfl rfl ?_
    rw [ls_7]
    refine wq_k 48 1 d35_47 (by decide) rfl ?_
    refine wq_a 49 d35_48 rfl rfl ?_
    refine wq_pf (ci := 2) (j := 7) 52 d35_49 rfl rfl rfl ⟨rfl, rfl⟩ rfl ?_
    first | rw [show nI p + 2 = nI (p + 2) from nI_add p 2, ls_p7] | rw [show nI p + 1 = nI (p + 1) from (nI_succ p).symm, ls_p7]
    refine wq_l 53 d35_52 rfl rfl rfl rfl ?_
    refine wq_lsw [(72, 95), (77, 92), (83, 88)] 98 d35_53 (by decide) (List.forall_mem_cons.mpr ⟨fun e53 => ?_, List.forall_mem_cons.mpr ⟨fun e53 => ?_, List.forall_mem_cons.mpr ⟨fun e53 => ?_, fun _ h => absurd h List.not_mem_nil⟩⟩⟩) (fun e53 => ?_)
    · -- case 72
      refine wq_c 97 d35_95 rfl rfl ?_
      refine wq_ri d35_97 (rfl) ?_
      first | exact h0 (by simp only [i_lt, i_le, i_eq, ne_eq, Int32.reduceToInt, b2_0, b2_1, decide_eq_true_eq, decide_eq_false_iff_not, Bool.not_eq_true, Bool.not_eq_false, e0, e1] at * <;> omega) | exact h1 (by simp only [i_lt, i_le, i_eq, ne_eq, Int32.reduceToInt, b2_0, b2_1, decide_eq_true_eq, decide_eq_false_iff_not, Bool.not_eq_true, Bool.not_eq_false, e0, e1] at * <;> omega) (by simp only [i_lt, i_le, i_eq, ne_eq, Int32.reduceToInt, b2_0, b2_1, decide_eq_true_eq, decide_eq_false_iff_not, Bool.not_eq_true, Bool.not_eq_false, e0, e1] at * <;> omega) | exact h2 (by simp only [i_lt, i_le, i_eq, ne_eq, Int32.reduceToInt, b2_0, b2_1, decide_eq_true_eq, decide_eq_false_iff_not, Bool.not_eq_true, Bool.not_eq_false, e0, e1] at * <;> omega) (by simp only [i_lt, i_le, i_eq, ne_eq, Int32.reduceToInt, b2_0, b2_1, decide_eq_true_eq, decide_eq_false_iff_not, Bool.not_eq_true, Bool.not_eq_false, e0, e1] at * <;> omega) (by simp only [i_lt, i_le, i_eq, ne_eq, Int32.reduceToInt, b2_0, b2_1, decide_eq_true_eq, decide_eq_false_iff_not, Bool.not_eq_true, Bool.not_eq_false, e0, e1] at * <;> omega) | exact h3 (by simp only [i_lt, i_le, i_eq, ne_eq, Int32.reduceToInt, b2_0, b2_1, decide_eq_true_eq, decide_eq_false_iff_not, Bool.not_eq_true, Bool.not_eq_false, e0, e1] at * <;> omega) (by simp only [i_lt, i_le, i_eq, ne_eq, Int32.reduceToInt, b2_0, b2_1, decide_eq_true_eq, decide_eq_false_iff_not, Bool.not_eq_true, Bool.not_eq_false, e0, e1] at * <;> omega) (by simp only [i_lt, i_le, i_eq, ne_eq, Int32.reduceToInt, b2_0, b2_1, decide_eq_true_eq, decide_eq_false_iff_not, Bool.not_eq_true, Bool.not_eq_false, e0, e1] at * <;> omega) (by simp only [i_lt, i_le, i_eq, ne_eq, Int32.reduceToInt, b2_0, b2_1, decide_eq_true_eq, decide_eq_false_iff_not, Bool.not_eq_true, Bool.not_eq_false, e0, e1] at * <;> omega) | exact h4 (by simp only [i_lt, i_le, i_eq, ne_eq, Int32.reduceToInt, b2_0, b2_1, decide_eq_true_eq, decide_eq_false_iff_not, Bool.not_eq_true, Bool.not_eq_false, e0, e1] at * <;> omega) (by simp only [i_lt, i_le, i_eq, ne_eq, Int32.reduceToInt, b2_0, b2_1, decide_eq_true_eq, decide_eq_false_iff_not, Bool.not_eq_true, Bool.not_eq_false, e0, e1] at * <;> omega) (by simp only [i_lt, i_le, i_eq, ne_eq, Int32.reduceToInt, b2_0, b2_1, decide_eq_true_eq, decide_eq_false_iff_not, Bool.not_eq_true, Bool.not_eq_false, e0, e1] at * <;> omega) (by simp only [i_lt, i_le, i_eq, ne_eq, Int32.reduceToInt, b2_0, b2_1, decide_eq_true_eq, decide_eq_false_iff_not, Bool.not_eq_true, Bool.not_eq_false, e0, e1] at * <;> omega) | (exfalso; simp only [i_lt, i_le, i_eq, ne_eq, Int32.reduceToInt, b2_0, b2_1, decide_eq_true_eq, decide_eq_false_iff_not, Bool.not_eq_true, Bool.not_eq_false, e0, e1] at * <;> omega)
    · -- case 77
      refine wq_c 94 d35_92 rfl rfl ?_
      refine wq_ri d35_94 (rfl) ?_
      first | exact h0 (by simp only [i_lt, i_le, i_eq, ne_eq, Int32.reduceToInt, b2_0, b2_1, decide_eq_true_eq, decide_eq_false_iff_not, Bool.not_eq_true, Bool.not_eq_false, e0, e1] at * <;> omega) | exact h1 (by simp only [i_lt, i_le, i_eq, ne_eq, Int32.reduceToInt, b2_0, b2_1, decide_eq_true_eq, decide_eq_false_iff_not, Bool.not_eq_true, Bool.not_eq_false, e0, e1] at * <;> omega) (by simp only [i_lt, i_le, i_eq, ne_eq, Int32.reduceToInt, b2_0, b2_1, decide_eq_true_eq, decide_eq_false_iff_not, Bool.not_eq_true, Bool.not_eq_false, e0, e1] at * <;> omega) | exact h2 (by simp only [i_lt, i_le, i_eq, ne_eq, Int32.reduceToInt, b2_0, b2_1, decide_eq_true_eq, decide_eq_false_iff_not, Bool.not_eq_true, Bool.not_eq_false, e0, e1] at * <;> omega) (by simp only [i_lt, i_le, i_eq, ne_eq, Int32.reduceToInt, b2_0, b2_1, decide_eq_true_eq, decide_eq_false_iff_not, Bool.not_eq_true, Bool.not_eq_false, e0, e1] at * <;> omega) (by simp only [i_lt, i_le, i_eq, ne_eq, Int32.reduceToInt, b2_0, b2_1, decide_eq_true_eq, decide_eq_false_iff_not, Bool.not_eq_true, Bool.not_eq_false, e0, e1] at * <;> omega) | exact h3 (by simp only [i_lt, i_le, i_eq, ne_eq, Int32.reduceToInt, b2_0, b2_1, decide_eq_true_eq, decide_eq_false_iff_not, Bool.not_eq_true, Bool.not_eq_false, e0, e1] at * <;> omega) (by simp only [i_lt, i_le, i_eq, ne_eq, Int32.reduceToInt, b2_0, b2_1, decide_eq_true_eq, decide_eq_false_iff_not, Bool.not_eq_true, Bool.not_eq_false, e0, e1] at * <;> omega) (by simp only [i_lt, i_le, i_eq, ne_eq, Int32.reduceToInt, b2_0, b2_1, decide_eq_true_eq, decide_eq_false_iff_not, Bool.not_eq_true, Bool.not_eq_false, e0, e1] at * <;> omega) (by simp only [i_lt, i_le, i_eq, ne_eq, Int32.reduceToInt, b2_0, b2_1, decide_eq_true_eq, decide_eq_false_iff_not, Bool.not_eq_true, Bool.not_eq_false, e0, e1] at * <;> omega) | exact h4 (by simp only [i_lt, i_le, i_eq, ne_eq, Int32.reduceToInt, b2_0, b2_1, decide_eq_true_eq, decide_eq_false_iff_not, Bool.not_eq_true, Bool.not_eq_false, e0, e1] at * <;> omega) (by simp only [i_lt, i_le, i_eq, ne_eq, Int32.reduceToInt, b2_0, b2_1, decide_eq_true_eq, decide_eq_false_iff_not, Bool.not_eq_true, Bool.not_eq_false, e0, e1] at * <;> omega) (by simp only [i_lt, i_le, i_eq, ne_eq, Int32.reduceToInt, b2_0, b2_1, decide_eq_true_eq, decide_eq_false_iff_not, Bool.not_eq_true, Bool.not_eq_false, e0, e1] at * <;> omega) (by simp only [i_lt, i_le, i_eq, ne_eq, Int32.reduceToInt, b2_0, b2_1, decide_eq_true_eq, decide_eq_false_iff_not, Bool.not_eq_true, Bool.not_eq_false, e0, e1] at * <;> omega) | (exfalso; simp only [i_lt, i_le, i_eq, ne_eq, Int32.reduceToInt, b2_0, b2_1, decide_eq_true_eq, decide_eq_false_iff_not, Bool.not_eq_true, Bool.not_eq_false, e0, e1] at * <;> omega)
    · -- case 83
      refine wq_k 91 1000 d35_88 (by decide) rfl ?_
      refine wq_ri d35_91 (rfl) ?_
      first | exact h0 (by simp only [i_lt, i_le, i_eq, ne_eq, Int32.reduceToInt, b2_0, b2_1, decide_eq_true_eq, decide_eq_false_iff_not, Bool.not_eq_true, Bool.not_eq_false, e0, e1] at * <;> omega) | exact h1 (by simp only [i_lt, i_le, i_eq, ne_eq, Int32.reduceToInt, b2_0, b2_1, decide_eq_true_eq, decide_eq_false_iff_not, Bool.not_eq_true, Bool.not_eq_false, e0, e1] at * <;> omega) (by simp only [i_lt, i_le, i_eq, ne_eq, Int32.reduceToInt, b2_0, b2_1, decide_eq_true_eq, decide_eq_false_iff_not, Bool.not_eq_true, Bool.not_eq_false, e0, e1] at * <;> omega) | exact h2 (by simp only [i_lt, i_le, i_eq, ne_eq, Int32.reduceToInt, b2_0, b2_1, decide_eq_true_eq, decide_eq_false_iff_not, Bool.not_eq_true, Bool.not_eq_false, e0, e1] at * <;> omega) (by simp only [i_lt, i_le, i_eq, ne_eq, Int32.reduceToInt, b2_0, b2_1, decide_eq_true_eq, decide_eq_false_iff_not, Bool.not_eq_true, Bool.not_eq_false, e0, e1] at * <;> omega) (by simp only [i_lt, i_le, i_eq, ne_eq, Int32.reduceToInt, b2_0, b2_1, decide_eq_true_eq, decide_eq_false_iff_not, Bool.not_eq_true, Bool.not_eq_false, e0, e1] at * <;> omega) | exact h3 (by simp only [i_lt, i_le, i_eq, ne_eq, Int32.reduceToInt, b2_0, b2_1, decide_eq_true_eq, decide_eq_false_iff_not, Bool.not_eq_true, Bool.not_eq_false, e0, e1] at * <;> omega) (by simp only [i_lt, i_le, i_eq, ne_eq, Int32.reduceToInt, b2_0, b2_1, decide_eq_true_eq, decide_eq_false_iff_not, Bool.not_eq_true, Bool.not_eq_false, e0, e1] at * <;> omega) (by simp only [i_lt, i_le, i_eq, ne_eq, Int32.reduceToInt, b2_0, b2_1, decide_eq_true_eq, decide_eq_false_iff_not, Bool.not_eq_true, Bool.not_eq_false, e0, e1] at * <;> omega) (by simp only [i_lt, i_le, i_eq, ne_eq, Int32.reduceToInt, b2_0, b2_1, decide_eq_true_eq, decide_eq_false_iff_not, Bool.not_eq_true, Bool.not_eq_false, e0, e1] at * <;> omega) | exact h4 (by simp only [i_lt, i_le, i_eq, ne_eq, Int32.reduceToInt, b2_0, b2_1, decide_eq_true_eq, decide_eq_false_iff_not, Bool.not_eq_true, Bool.not_eq_false, e0, e1] at * <;> omega) (by simp only [i_lt, i_le, i_eq, ne_eq, Int32.reduceToInt, b2_0, b2_1, decide_eq_true_eq, decide_eq_false_iff_not, Bool.not_eq_true, Bool.not_eq_false, e0, e1] at * <;> omega) (by simp only [i_lt, i_le, i_eq, ne_eq, Int32.reduceToInt, b2_0, b2_1, decide_eq_true_eq, decide_eq_false_iff_not, Bool.not_eq_true, Bool.not_eq_false, e0, e1] at * <;> omega) (by simp only [i_lt, i_le, i_eq, ne_eq, Int32.reduceToInt, b2_0, b2_1, decide_eq_true_eq, decide_eq_false_iff_not, Bool.not_eq_true, Bool.not_eq_false, e0, e1] at * <;> omega) | (exfalso; simp only [i_lt, i_le, i_eq, ne_eq, Int32.reduceToInt, b2_0, b2_1, decide_eq_true_eq, decide_eq_false_iff_not, Bool.not_eq_true, Bool.not_eq_false, e0, e1] at * <;> omega)
    · -- default
      have w53_72 := e53 (72, 95) (by decide)
      have w53_77 := e53 (77, 92) (by decide)
      have w53_83 := e53 (83, 88) (by decide)
      refine wq_k 99 0 d35_98 (by decide) rfl ?_
      refine wq_ri d35_99 (rfl) ?_
      first | exact h0 (by simp only [i_lt, i_le, i_eq, ne_eq, Int32.reduceToInt, b2_0, b2_1, decide_eq_true_eq, decide_eq_false_iff_not, Bool.not_eq_true, Bool.not_eq_false, e0, e1] at * <;> omega) | exact h1 (by simp only [i_lt, i_le, i_eq, ne_eq, Int32.reduceToInt, b2_0, b2_1, decide_eq_true_eq, decide_eq_false_iff_not, Bool.not_eq_true, Bool.not_eq_false, e0, e1] at * <;> omega) (by simp only [i_lt, i_le, i_eq, ne_eq, Int32.reduceToInt, b2_0, b2_1, decide_eq_true_eq, decide_eq_false_iff_not, Bool.not_eq_true, Bool.not_eq_false, e0, e1] at * <;> omega) | exact h2 (by simp only [i_lt, i_le, i_eq, ne_eq, Int32.reduceToInt, b2_0, b2_1, decide_eq_true_eq, decide_eq_false_iff_not, Bool.not_eq_true, Bool.not_eq_false, e0, e1] at * <;> omega) (by simp only [i_lt, i_le, i_eq, ne_eq, Int32.reduceToInt, b2_0, b2_1, decide_eq_true_eq, decide_eq_false_iff_not, Bool.not_eq_true, Bool.not_eq_false, e0, e1] at * <;> omega) (by simp only [i_lt, i_le, i_eq, ne_eq, Int32.reduceToInt, b2_0, b2_1, decide_eq_true_eq, decide_eq_false_iff_not, Bool.not_eq_true, Bool.not_eq_false, e0, e1] at * <;> omega) | exact h3 (by simp only [i_lt, i_le, i_eq, ne_eq, Int32.reduceToInt, b2_0, b2_1, decide_eq_true_eq, decide_eq_false_iff_not, Bool.not_eq_true, Bool.not_eq_false, e0, e1] at * <;> omega) (by simp only [i_lt, i_le, i_eq, ne_eq, Int32.reduceToInt, b2_0, b2_1, decide_eq_true_eq, decide_eq_false_iff_not, Bool.not_eq_true, Bool.not_eq_false, e0, e1] at * <;> omega) (by simp only [i_lt, i_le, i_eq, ne_eq, Int32.reduceToInt, b2_0, b2_1, decide_eq_true_eq, decide_eq_false_iff_not, Bool.not_eq_true, Bool.not_eq_false, e0, e1] at * <;> omega) (by simp only [i_lt, i_le, i_eq, ne_eq, Int32.reduceToInt, b2_0, b2_1, decide_eq_true_eq, decide_eq_false_iff_not, Bool.not_eq_true, Bool.not_eq_false, e0, e1] at * <;> omega) | exact h4 (by simp only [i_lt, i_le, i_eq, ne_eq, Int32.reduceToInt, b2_0, b2_1, decide_eq_true_eq, decide_eq_false_iff_not, Bool.not_eq_true, Bool.not_eq_false, e0, e1] at * <;> omega) (by simp only [i_lt, i_le, i_eq, ne_eq, Int32.reduceToInt, b2_0, b2_1, decide_eq_true_eq, decide_eq_false_iff_not, Bool.not_eq_true, Bool.not_eq_false, e0, e1] at * <;> omega) (by simp only [i_lt, i_le, i_eq, ne_eq, Int32.reduceToInt, b2_0, b2_1, decide_eq_true_eq, decide_eq_false_iff_not, Bool.not_eq_true, Bool.not_eq_false, e0, e1] at * <;> omega) (by simp only [i_lt, i_le, i_eq, ne_eq, Int32.reduceToInt, b2_0, b2_1, decide_eq_true_eq, decide_eq_false_iff_not, Bool.not_eq_true, Bool.not_eq_false, e0, e1] at * <;> omega) | (exfalso; simp only [i_lt, i_le, i_eq, ne_eq, Int32.reduceToInt, b2_0, b2_1, decide_eq_true_eq, decide_eq_false_iff_not, Bool.not_eq_true, Bool.not_eq_false, e0, e1] at * <;> omega)
  · -- pc 15
    refine wq_l 16 d35_15 rfl rfl rfl rfl ?_
    refine wq_l 17 d35_16 rfl rfl rfl rfl ?_
    refine wq_gi (ci := 2) (j := 7) 20 d35_17 rfl rfl rfl rfl ?_
    rw [ls_7]
    refine wq_k 21 1 d35_20 (by decide) rfl ?_
    refine wq_a 22 d35_21 rfl rfl ?_
    rw [show nI p + 1 = nI (p + 1) from (nI_succ p).symm]
    refine wq_v 25 [_] d35_22 rfl rfl m36 rfl rfl (Nat.le_of_ble_eq_true rfl) rfl (sp36 hT' (by omega) ?_)
    refine wq_k 27 83 d35_25 (by decide) rfl ?_
    refine wq_b 42 30 d35_27 rfl (by decide) rfl (fun c27 => ?_) (fun c27 => ?_)
    · -- pc 42
      refine wq_l 43 d35_42 rfl rfl rfl rfl ?_
      refine wq_a 44 d35_43 rfl rfl ?_
      refine wq_gi (ci := 2) (j := 7) 47 d35_44 rfl rfl rfl rfl ?_
      rw [ls_7]
      refine wq_k 48 1 d35_47 (by decide) rfl ?_
      refine wq_a 49 d35_48 rfl rfl ?_
      refine wq_pf (ci := 2) (j := 7) 52 d35_49 rfl rfl rfl ⟨rfl, rfl⟩ rfl ?_
      first | rw [show nI p + 2 = nI (p + 2) from nI_add p 2, ls_p7] | rw [show nI p + 1 = nI (p + 1) from (nI_succ p).symm, ls_p7]
      refine wq_l 53 d35_52 rfl rfl rfl rfl ?_
      refine wq_lsw [(72, 95), (77, 92), (83, 88)] 98 d35_53 (by decide) (List.forall_mem_cons.mpr ⟨fun e53 => ?_, List.forall_mem_cons.mpr ⟨fun e53 => ?_, List.forall_mem_cons.mpr ⟨fun e53 => ?_, fun _ h => absurd h List.not_mem_nil⟩⟩⟩) (fun e53 => ?_)
      · -- case 72
        refine wq_c 97 d35_95 rfl rfl ?_
        refine wq_ri d35_97 (rfl) ?_
        first | exact h0 (by simp only [i_lt, i_le, i_eq, ne_eq, Int32.reduceToInt, b2_0, b2_1, decide_eq_true_eq, decide_eq_false_iff_not, Bool.not_eq_true, Bool.not_eq_false, e0, e1] at * <;> omega) | exact h1 (by simp only [i_lt, i_le, i_eq, ne_eq, Int32.reduceToInt, b2_0, b2_1, decide_eq_true_eq, decide_eq_false_iff_not, Bool.not_eq_true, Bool.not_eq_false, e0, e1] at * <;> omega) (by simp only [i_lt, i_le, i_eq, ne_eq, Int32.reduceToInt, b2_0, b2_1, decide_eq_true_eq, decide_eq_false_iff_not, Bool.not_eq_true, Bool.not_eq_false, e0, e1] at * <;> omega) | exact h2 (by simp only [i_lt, i_le, i_eq, ne_eq, Int32.reduceToInt, b2_0, b2_1, decide_eq_true_eq, decide_eq_false_iff_not, Bool.not_eq_true, Bool.not_eq_false, e0, e1] at * <;> omega) (by simp only [i_lt, i_le, i_eq, ne_eq, Int32.reduceToInt, b2_0, b2_1, decide_eq_true_eq, decide_eq_false_iff_not, Bool.not_eq_true, Bool.not_eq_false, e0, e1] at * <;> omega) (by simp only [i_lt, i_le, i_eq, ne_eq, Int32.reduceToInt, b2_0, b2_1, decide_eq_true_eq, decide_eq_false_iff_not, Bool.not_eq_true, Bool.not_eq_false, e0, e1] at * <;> omega) | exact h3 (by simp only [i_lt, i_le, i_eq, ne_eq, Int32.reduceToInt, b2_0, b2_1, decide_eq_true_eq, decide_eq_false_iff_not, Bool.not_eq_true, Bool.not_eq_false, e0, e1] at * <;> omega) (by simp only [i_lt, i_le, i_eq, ne_eq, Int32.reduceToInt, b2_0, b2_1, decide_eq_true_eq, decide_eq_false_iff_not, Bool.not_eq_true, Bool.not_eq_false, e0, e1] at * <;> omega) (by simp only [i_lt, i_le, i_eq, ne_eq, Int32.reduceToInt, b2_0, b2_1, decide_eq_true_eq, decide_eq_false_iff_not, Bool.not_eq_true, Bool.not_eq_false, e0, e1] at * <;> omega) (by simp only [i_lt, i_le, i_eq, ne_eq, Int32.reduceToInt, b2_0, b2_1, decide_eq_true_eq, decide_eq_false_iff_not, Bool.not_eq_true, Bool.not_eq_false, e0, e1] at * <;> omega) | exact h4 (by simp only [i_lt, i_le, i_eq, ne_eq, Int32.reduceToInt, b2_0, b2_1, decide_eq_true_eq, decide_eq_false_iff_not, Bool.not_eq_true, Bool.not_eq_false, e0, e1] at * <;> omega) (by simp only [i_lt, i_le, i_eq, ne_eq, Int32.reduceToInt, b2_0, b2_1, decide_eq_true_eq, decide_eq_false_iff_not, Bool.not_eq_true, Bool.not_eq_false, e0, e1] at * <;> omega) (by simp only [i_lt, i_le, i_eq, ne_eq, Int32.reduceToInt, b2_0, b2_1, decide_eq_true_eq, decide_eq_false_iff_not, Bool.not_eq_true, Bool.not_eq_false, e0, e1] at * <;> omega) (by simp only [i_lt, i_le, i_eq, ne_eq, Int32.reduceToInt, b2_0, b2_1, decide_eq_true_eq, decide_eq_false_iff_not, Bool.not_eq_true, Bool.not_eq_false, e0, e1] at * <;> omega) | (exfalso; simp only [i_lt, i_le, i_eq, ne_eq, Int32.reduceToInt, b2_0, b2_1, decide_eq_true_eq, decide_eq_false_iff_not, Bool.not_eq_true, Bool.not_eq_false, e0, e1] at * <;> omega)
      · -- case 77
        refine wq_c 94 d35_92 rfl rfl ?_
        refine wq_ri d35_94 (rfl) ?_
        first | exact h0 (by simp only [i_lt, i_le, i_eq, ne_eq, Int32.reduceToInt, b2_0, b2_1, decide_eq_true_eq, decide_eq_false_iff_not, Bool.not_eq_true, Bool.not_eq_false, e0, e1] at * <;> omega) | exact h1 (by simp only [i_lt, i_le, i_eq, ne_eq, Int32.reduceToInt, b2_0, b2_1, decide_eq_true_eq, decide_eq_false_iff_not, Bool.not_eq_true, Bool.not_eq_false, e0, e1] at * <;> omega) (by simp only [i_lt, i_le, i_eq, ne_eq, Int32.reduceToInt, b2_0, b2_1, decide_eq_true_eq, decide_eq_false_iff_not, Bool.not_eq_true, Bool.not_eq_false, e0, e1] at * <;> omega) | exact h2 (by simp only [i_lt, i_le, i_eq, ne_eq, Int32.reduceToInt, b2_0, b2_1, decide_eq_true_eq, decide_eq_false_iff_not, Bool.not_eq_true, Bool.not_eq_false, e0, e1] at * <;> omega) (by simp only [i_lt, i_le, i_eq, ne_eq, Int32.reduceToInt, b2_0, b2_1, decide_eq_true_eq, decide_eq_false_iff_not, Bool.not_eq_true, Bool.not_eq_false, e0, e1] at * <;> omega) (by simp only [i_lt, i_le, i_eq, ne_eq, Int32.reduceToInt, b2_0, b2_1, decide_eq_true_eq, decide_eq_false_iff_not, Bool.not_eq_true, Bool.not_eq_false, e0, e1] at * <;> omega) | exact h3 (by simp only [i_lt, i_le, i_eq, ne_eq, Int32.reduceToInt, b2_0, b2_1, decide_eq_true_eq, decide_eq_false_iff_not, Bool.not_eq_true, Bool.not_eq_false, e0, e1] at * <;> omega) (by simp only [i_lt, i_le, i_eq, ne_eq, Int32.reduceToInt, b2_0, b2_1, decide_eq_true_eq, decide_eq_false_iff_not, Bool.not_eq_true, Bool.not_eq_false, e0, e1] at * <;> omega) (by simp only [i_lt, i_le, i_eq, ne_eq, Int32.reduceToInt, b2_0, b2_1, decide_eq_true_eq, decide_eq_false_iff_not, Bool.not_eq_true, Bool.not_eq_false, e0, e1] at * <;> omega) (by simp only [i_lt, i_le, i_eq, ne_eq, Int32.reduceToInt, b2_0, b2_1, decide_eq_true_eq, decide_eq_false_iff_not, Bool.not_eq_true, Bool.not_eq_false, e0, e1] at * <;> omega) | exact h4 (by simp only [i_lt, i_le, i_eq, ne_eq, Int32.reduceToInt, b2_0, b2_1, decide_eq_true_eq, decide_eq_false_iff_not, Bool.not_eq_true, Bool.not_eq_false, e0, e1] at * <;> omega) (by simp only [i_lt, i_le, i_eq, ne_eq, Int32.reduceToInt, b2_0, b2_1, decide_eq_true_eq, decide_eq_false_iff_not, Bool.not_eq_true, Bool.not_eq_false, e0, e1] at * <;> omega) (by simp only [i_lt, i_le, i_eq, ne_eq, Int32.reduceToInt, b2_0, b2_1, decide_eq_true_eq, decide_eq_false_iff_not, Bool.not_eq_true, Bool.not_eq_false, e0, e1] at * <;> omega) (by simp only [i_lt, i_le, i_eq, ne_eq, Int32.reduceToInt, b2_0, b2_1, decide_eq_true_eq, decide_eq_false_iff_not, Bool.not_eq_true, Bool.not_eq_false, e0, e1] at * <;> omega) | (exfalso; simp only [i_lt, i_le, i_eq, ne_eq, Int32.reduceToInt, b2_0, b2_1, decide_eq_true_eq, decide_eq_false_iff_not, Bool.not_eq_true, Bool.not_eq_false, e0, e1] at * <;> omega)
      · -- case 83
        refine wq_k 91 1000 d35_88 (by decide) rfl ?_
        refine wq_ri d35_91 (rfl) ?_
        first | exact h0 (by simp only [i_lt, i_le, i_eq, ne_eq, Int32.reduceToInt, b2_0, b2_1, decide_eq_true_eq, decide_eq_false_iff_not, Bool.not_eq_true, Bool.not_eq_false, e0, e1] at * <;> omega) | exact h1 (by simp only [i_lt, i_le, i_eq, ne_eq, Int32.reduceToInt, b2_0, b2_1, decide_eq_true_eq, decide_eq_false_iff_not, Bool.not_eq_true, Bool.not_eq_false, e0, e1] at * <;> omega) (by simp only [i_lt, i_le, i_eq, ne_eq, Int32.reduceToInt, b2_0, b2_1, decide_eq_true_eq, decide_eq_false_iff_not, Bool.not_eq_true, Bool.not_eq_false, e0, e1] at * <;> omega) | exact h2 (by simp only [i_lt, i_le, i_eq, ne_eq, Int32.reduceToInt, b2_0, b2_1, decide_eq_true_eq, decide_eq_false_iff_not, Bool.not_eq_true, Bool.not_eq_false, e0, e1] at * <;> omega) (by simp only [i_lt, i_le, i_eq, ne_eq, Int32.reduceToInt, b2_0, b2_1, decide_eq_true_eq, decide_eq_false_iff_not, Bool.not_eq_true, Bool.not_eq_false, e0, e1] at * <;> omega) (by simp only [i_lt, i_le, i_eq, ne_eq, Int32.reduceToInt, b2_0, b2_1, decide_eq_true_eq, decide_eq_false_iff_not, Bool.not_eq_true, Bool.not_eq_false, e0, e1] at * <;> omega) | exact h3 (by simp only [i_lt, i_le, i_eq, ne_eq, Int32.reduceToInt, b2_0, b2_1, decide_eq_true_eq, decide_eq_false_iff_not, Bool.not_eq_true, Bool.not_eq_false, e0, e1] at * <;> omega) (by simp only [i_lt, i_le, i_eq, ne_eq, Int32.reduceToInt, b2_0, b2_1, decide_eq_true_eq, decide_eq_false_iff_not, Bool.not_eq_true, Bool.not_eq_false, e0, e1] at * <;> omega) (by simp only [i_lt, i_le, i_eq, ne_eq, Int32.reduceToInt, b2_0, b2_1, decide_eq_true_eq, decide_eq_false_iff_not, Bool.not_eq_true, Bool.not_eq_false, e0, e1] at * <;> omega) (by simp only [i_lt, i_le, i_eq, ne_eq, Int32.reduceToInt, b2_0, b2_1, decide_eq_true_eq, decide_eq_false_iff_not, Bool.not_eq_true, Bool.not_eq_false, e0, e1] at * <;> omega) | exact h4 (by simp only [i_lt, i_le, i_eq, ne_eq, Int32.reduceToInt, b2_0, b2_1, decide_eq_true_eq, decide_eq_false_iff_not, Bool.not_eq_true, Bool.not_eq_false, e0, e1] at * <;> omega) (by simp only [i_lt, i_le, i_eq, ne_eq, Int32.reduceToInt, b2_0, b2_1, decide_eq_true_eq, decide_eq_false_iff_not, Bool.not_eq_true, Bool.not_eq_false, e0, e1] at * <;> omega) (by simp only [i_lt, i_le, i_eq, ne_eq, Int32.reduceToInt, b2_0, b2_1, decide_eq_true_eq, decide_eq_false_iff_not, Bool.not_eq_true, Bool.not_eq_false, e0, e1] at * <;> omega) (by simp only [i_lt, i_le, i_eq, ne_eq, Int32.reduceToInt, b2_0, b2_1, decide_eq_true_eq, decide_eq_false_iff_not, Bool.not_eq_true, Bool.not_eq_false, e0, e1] at * <;> omega) | (exfalso; simp only [i_lt, i_le, i_eq, ne_eq, Int32.reduceToInt, b2_0, b2_1, decide_eq_true_eq, decide_eq_false_iff_not, Bool.not_eq_true, Bool.not_eq_false, e0, e1] at * <;> omega)
      · -- default
        have w53_72 := e53 (72, 95) (by decide)
        have w53_77 := e53 (77, 92) (by decide)
        have w53_83 := e53 (83, 88) (by decide)
        refine wq_k 99 0 d35_98 (by decide) rfl ?_
        refine wq_ri d35_99 (rfl) ?_
        first | exact h0 (by simp only [i_lt, i_le, i_eq, ne_eq, Int32.reduceToInt, b2_0, b2_1, decide_eq_true_eq, decide_eq_false_iff_not, Bool.not_eq_true, Bool.not_eq_false, e0, e1] at * <;> omega) | exact h1 (by simp only [i_lt, i_le, i_eq, ne_eq, Int32.reduceToInt, b2_0, b2_1, decide_eq_true_eq, decide_eq_false_iff_not, Bool.not_eq_true, Bool.not_eq_false, e0, e1] at * <;> omega) (by simp only [i_lt, i_le, i_eq, ne_eq, Int32.reduceToInt, b2_0, b2_1, decide_eq_true_eq, decide_eq_false_iff_not, Bool.not_eq_true, Bool.not_eq_false, e0, e1] at * <;> omega) | exact h2 (by simp only [i_lt, i_le, i_eq, ne_eq, Int32.reduceToInt, b2_0, b2_1, decide_eq_true_eq, decide_eq_false_iff_not, Bool.not_eq_true, Bool.not_eq_false, e0, e1] at * <;> omega) (by simp only [i_lt, i_le, i_eq, ne_eq, Int32.reduceToInt, b2_0, b2_1, decide_eq_true_eq, decide_eq_false_iff_not, Bool.not_eq_true, Bool.not_eq_false, e0, e1] at * <;> omega) (by simp only [i_lt, i_le, i_eq, ne_eq, Int32.reduceToInt, b2_0, b2_1, decide_eq_true_eq, decide_eq_false_iff_not, Bool.not_eq_true, Bool.not_eq_false, e0, e1] at * <;> omega) | exact h3 (by simp only [i_lt, i_le, i_eq, ne_eq, Int32.reduceToInt, b2_0, b2_1, decide_eq_true_eq, decide_eq_false_iff_not, Bool.not_eq_true, Bool.not_eq_false, e0, e1] at * <;> omega) (by simp only [i_lt, i_le, i_eq, ne_eq, Int32.reduceToInt, b2_0, b2_1, decide_eq_true_eq, decide_eq_false_iff_not, Bool.not_eq_true, Bool.not_eq_false, e0, e1] at * <;> omega) (by simp only [i_lt, i_le, i_eq, ne_eq, Int32.reduceToInt, b2_0, b2_1, decide_eq_true_eq, decide_eq_false_iff_not, Bool.not_eq_true, Bool.not_eq_false, e0, e1] at * <;> omega) (by simp only [i_lt, i_le, i_eq, ne_eq, Int32.reduceToInt, b2_0, b2_1, decide_eq_true_eq, decide_eq_false_iff_not, Bool.not_eq_true, Bool.not_eq_false, e0, e1] at * <;> omega) | exact h4 (by simp only [i_lt, i_le, i_eq, ne_eq, Int32.reduceToInt, b2_0, b2_1, decide_eq_true_eq, decide_eq_false_iff_not, Bool.not_eq_true, Bool.not_eq_false, e0, e1] at * <;> omega) (by simp only [i_lt, i_le, i_eq, ne_eq, Int32.reduceToInt, b2_0, b2_1, decide_eq_true_eq, decide_eq_false_iff_not, Bool.not_eq_true, Bool.not_eq_false, e0, e1] at * <;> omega) (by simp only [i_lt, i_le, i_eq, ne_eq, Int32.reduceToInt, b2_0, b2_1, decide_eq_true_eq, decide_eq_false_iff_not, Bool.not_eq_true, Bool.not_eq_false, e0, e1] at * <;> omega) (by simp only [i_lt, i_le, i_eq, ne_eq, Int32.reduceToInt, b2_0, b2_1, decide_eq_true_eq, decide_eq_false_iff_not, Bool.not_eq_true, Bool.not_eq_false, e0, e1] at * <;> omega) | (exfalso; simp only [i_lt, i_le, i_eq, ne_eq, Int32.reduceToInt, b2_0, b2_1, decide_eq_true_eq, decide_eq_false_iff_not, Bool.not_eq_true, Bool.not_eq_false, e0, e1] at * <;> omega)
    · -- pc 30
      refine wq_l 31 d35_30 rfl rfl rfl rfl ?_
      refine wq_a 32 d35_31 rfl rfl ?_
      refine wq_gi (ci := 2) (j := 7) 35 d35_32 rfl rfl rfl rfl ?_
      rw [ls_7]
      refine wq_k 36 2 d35_35 (by decide) rfl ?_
      refine wq_a 37 d35_36 rfl rfl ?_
      refine wq_pf (ci := 2) (j := 7) 40 d35_37 rfl rfl rfl ⟨rfl, rfl⟩ rfl ?_
      first | rw [show nI p + 2 = nI (p + 2) from nI_add p 2, ls_p7] | rw [show nI p + 1 = nI (p + 1) from (nI_succ p).symm, ls_p7]
      refine wq_k 41 1 d35_40 (by decide) rfl ?_
      refine wq_ri d35_41 (rfl) ?_
      first | exact h0 (by simp only [i_lt, i_le, i_eq, ne_eq, Int32.reduceToInt, b2_0, b2_1, decide_eq_true_eq, decide_eq_false_iff_not, Bool.not_eq_true, Bool.not_eq_false, e0, e1] at * <;> omega) | exact h1 (by simp only [i_lt, i_le, i_eq, ne_eq, Int32.reduceToInt, b2_0, b2_1, decide_eq_true_eq, decide_eq_false_iff_not, Bool.not_eq_true, Bool.not_eq_false, e0, e1] at * <;> omega) (by simp only [i_lt, i_le, i_eq, ne_eq, Int32.reduceToInt, b2_0, b2_1, decide_eq_true_eq, decide_eq_false_iff_not, Bool.not_eq_true, Bool.not_eq_false, e0, e1] at * <;> omega) | exact h2 (by simp only [i_lt, i_le, i_eq, ne_eq, Int32.reduceToInt, b2_0, b2_1, decide_eq_true_eq, decide_eq_false_iff_not, Bool.not_eq_true, Bool.not_eq_false, e0, e1] at * <;> omega) (by simp only [i_lt, i_le, i_eq, ne_eq, Int32.reduceToInt, b2_0, b2_1, decide_eq_true_eq, decide_eq_false_iff_not, Bool.not_eq_true, Bool.not_eq_false, e0, e1] at * <;> omega) (by simp only [i_lt, i_le, i_eq, ne_eq, Int32.reduceToInt, b2_0, b2_1, decide_eq_true_eq, decide_eq_false_iff_not, Bool.not_eq_true, Bool.not_eq_false, e0, e1] at * <;> omega) | exact h3 (by simp only [i_lt, i_le, i_eq, ne_eq, Int32.reduceToInt, b2_0, b2_1, decide_eq_true_eq, decide_eq_false_iff_not, Bool.not_eq_true, Bool.not_eq_false, e0, e1] at * <;> omega) (by simp only [i_lt, i_le, i_eq, ne_eq, Int32.reduceToInt, b2_0, b2_1, decide_eq_true_eq, decide_eq_false_iff_not, Bool.not_eq_true, Bool.not_eq_false, e0, e1] at * <;> omega) (by simp only [i_lt, i_le, i_eq, ne_eq, Int32.reduceToInt, b2_0, b2_1, decide_eq_true_eq, decide_eq_false_iff_not, Bool.not_eq_true, Bool.not_eq_false, e0, e1] at * <;> omega) (by simp only [i_lt, i_le, i_eq, ne_eq, Int32.reduceToInt, b2_0, b2_1, decide_eq_true_eq, decide_eq_false_iff_not, Bool.not_eq_true, Bool.not_eq_false, e0, e1] at * <;> omega) | exact h4 (by simp only [i_lt, i_le, i_eq, ne_eq, Int32.reduceToInt, b2_0, b2_1, decide_eq_true_eq, decide_eq_false_iff_not, Bool.not_eq_true, Bool.not_eq_false, e0, e1] at * <;> omega) (by simp only [i_lt, i_le, i_eq, ne_eq, Int32.reduceToInt, b2_0, b2_1, decide_eq_true_eq, decide_eq_false_iff_not, Bool.not_eq_true, Bool.not_eq_false, e0, e1] at * <;> omega) (by simp only [i_lt, i_le, i_eq, ne_eq, Int32.reduceToInt, b2_0, b2_1, decide_eq_true_eq, decide_eq_false_iff_not, Bool.not_eq_true, Bool.not_eq_false, e0, e1] at * <;> omega) (by simp only [i_lt, i_le, i_eq, ne_eq, Int32.reduceToInt, b2_0, b2_1, decide_eq_true_eq, decide_eq_false_iff_not, Bool.not_eq_true, Bool.not_eq_false, e0, e1] at * <;> omega) | (exfalso; simp only [i_lt, i_le, i_eq, ne_eq, Int32.reduceToInt, b2_0, b2_1, decide_eq_true_eq, decide_eq_false_iff_not, Bool.not_eq_true, Bool.not_eq_false, e0, e1] at * <;> omega)
/-- a token more -/
def la (σ : pm_S) (c : Nat) (x y z : Int32) : pm_S := pm_pi (pm_pr (pm_pr (pm_pr σ 16 (upd (σ.2.2 16) c x)) 17 (upd (σ.2.2 17) c y)) 18 (upd (σ.2.2 18) c z)) 2 5 (nI (c + 1))
/-- what a token read at p does -/
def lx_Q (Q : Option Value → pm_S → Prop) (σ : pm_S) (c p : Nat) (r : lx_K) : Prop := ∀ e' a', (r.1 ≠ 45 → e' = r.2.2) → Q (some (.int (b2 (decide (r.1 ≠ 45 ∧ r.1 ≠ 44))))) (la (ls σ e' a') c (nI r.1) (nI p) (nI r.2.1))
theorem d30_0 : decode prog_9_method_17_code 0 = .ok (.aload_n 0, 1) := by decide +kernel
theorem d30_1 : decode prog_9_method_17_code 1 = .ok (.getfield 29, 3) := by decide +kernel
theorem d30_4 : decode prog_9_method_17_code 4 = .ok (.aload_n 0, 1) := by decide +kernel
theorem d30_5 : decode prog_9_method_17_code 5 = .ok (.getfield 19, 3) := by decide +kernel
theorem d30_8 : decode prog_9_method_17_code 8 = .ok (.arraylength, 1) := by decide +kernel
theorem d30_9 : decode prog_9_method_17_code 9 = .ok (.if_icmp .ge 43, 3) := by decide +kernel
theorem d30_12 : decode prog_9_method_17_code 12 = .ok (.aload_n 0, 1) := by decide +kernel
theorem d30_13 : decode prog_9_method_17_code 13 = .ok (.getfield 19, 3) := by decide +kernel
theorem d30_16 : decode prog_9_method_17_code 16 = .ok (.aload_n 0, 1) := by decide +kernel
theorem d30_17 : decode prog_9_method_17_code 17 = .ok (.getfield 29, 3) := by decide +kernel
theorem d30_20 : decode prog_9_method_17_code 20 = .ok (.iload_n 1, 1) := by decide +kernel
theorem d30_21 : decode prog_9_method_17_code 21 = .ok (.iastore, 1) := by decide +kernel
theorem d30_22 : decode prog_9_method_17_code 22 = .ok (.aload_n 0, 1) := by decide +kernel
theorem d30_23 : decode prog_9_method_17_code 23 = .ok (.getfield 23, 3) := by decide +kernel
theorem d30_26 : decode prog_9_method_17_code 26 = .ok (.aload_n 0, 1) := by decide +kernel
theorem d30_27 : decode prog_9_method_17_code 27 = .ok (.getfield 29, 3) := by decide +kernel
theorem d30_30 : decode prog_9_method_17_code 30 = .ok (.iload_n 2, 1) := by decide +kernel
theorem d30_31 : decode prog_9_method_17_code 31 = .ok (.iastore, 1) := by decide +kernel
theorem d30_32 : decode prog_9_method_17_code 32 = .ok (.aload_n 0, 1) := by decide +kernel
theorem d30_33 : decode prog_9_method_17_code 33 = .ok (.getfield 26, 3) := by decide +kernel
theorem d30_36 : decode prog_9_method_17_code 36 = .ok (.aload_n 0, 1) := by decide +kernel
theorem d30_37 : decode prog_9_method_17_code 37 = .ok (.getfield 29, 3) := by decide +kernel
theorem d30_40 : decode prog_9_method_17_code 40 = .ok (.iload_n 3, 1) := by decide +kernel
theorem d30_41 : decode prog_9_method_17_code 41 = .ok (.iastore, 1) := by decide +kernel
theorem d30_42 : decode prog_9_method_17_code 42 = .ok (.aload_n 0, 1) := by decide +kernel
theorem d30_43 : decode prog_9_method_17_code 43 = .ok (.dup, 1) := by decide +kernel
theorem d30_44 : decode prog_9_method_17_code 44 = .ok (.getfield 29, 3) := by decide +kernel
theorem d30_47 : decode prog_9_method_17_code 47 = .ok (.iconst 1, 1) := by decide +kernel
theorem d30_48 : decode prog_9_method_17_code 48 = .ok (.iadd, 1) := by decide +kernel
theorem d30_49 : decode prog_9_method_17_code 49 = .ok (.putfield 29, 3) := by decide +kernel
theorem d30_52 : decode prog_9_method_17_code 52 = .ok (.return_, 1) := by decide +kernel
theorem m30 : pm_m 30 = some (⟨"TypeRules$Tokens", "add", "(III)V"⟩, prog_9_method_17_code, 4, none, 2, 3, 3) := rfl
theorem d29_0 : decode prog_9_method_18_code 0 = .ok (.aload_n 0, 1) := by decide +kernel
theorem d29_1 : decode prog_9_method_18_code 1 = .ok (.bipush 45, 2) := by decide +kernel
theorem d29_3 : decode prog_9_method_18_code 3 = .ok (.iload_n 2, 1) := by decide +kernel
theorem d29_4 : decode prog_9_method_18_code 4 = .ok (.iload_n 1, 1) := by decide +kernel
theorem d29_5 : decode prog_9_method_18_code 5 = .ok (.invokevirtual 77, 3) := by decide +kernel
theorem d29_8 : decode prog_9_method_18_code 8 = .ok (.iconst 0, 1) := by decide +kernel
theorem d29_9 : decode prog_9_method_18_code 9 = .ok (.ireturn, 1) := by decide +kernel
theorem m29 : pm_m 29 = some (⟨"TypeRules$Tokens", "addBad", "(II)Z"⟩, prog_9_method_18_code, 3, (some FieldType.boolean), 2, 2, 3) := rfl
theorem sp30 {d : Nat} {σ : pm_S} {Q : Option Value → pm_S → Prop} {c : Nat} {x y z : Int32} (h5 : σ.1 2 5 = nI c) (hc : c < 8193) (hQ : Q none (la σ c x y z)) : pm_call pm_Y0 (d + 1) 30 [.ref 2, .int x, .int y, .int z] σ Q := by
  have ec := nI_toInt (n := c) (by omega)
  have ek := nI_clamp (n := c) (by omega)
  have e8 : (Int32.ofNat 8193).toInt = 8193 := rfl
  refine wq_m m30 (Nat.le_of_ble_eq_true rfl) (by decide) rfl ?_
  refine wq_l 1 d30_0 rfl rfl rfl rfl ?_
  refine wq_gi (ci := 2) (j := 5) 4 d30_1 rfl rfl rfl rfl ?_
  simp only [pm_r1r, h5]
  refine wq_l 5 d30_4 rfl rfl rfl rfl ?_
  refine wq_gr (ci := 2) (j := 2) (q := 16) 8 d30_5 rfl rfl rfl rfl ?_
  refine wq_len 9 d30_8 rfl rfl rfl ?_
  refine wq_b 52 12 d30_9 rfl (by decide) rfl (fun c9 => absurd c9 ((by simp only [i_lt, i_le, i_eq, ne_eq, Int32.reduceToInt, b2_0, b2_1, decide_eq_true_eq, decide_eq_false_iff_not, Bool.not_eq_true, Bool.not_eq_false] at * <;> omega))) (fun c9 => ?_)
  refine wq_l 13 d30_12 rfl rfl rfl rfl ?_
  refine wq_gr (ci := 2) (j := 2) (q := 16) 16 d30_13 rfl rfl rfl rfl ?_
  refine wq_l 17 d30_16 rfl rfl rfl rfl ?_
  refine wq_gi (ci := 2) (j := 5) 20 d30_17 rfl rfl rfl rfl ?_
  simp only [pm_r1r, h5]
  refine wq_l 21 d30_20 rfl rfl rfl rfl ?_
  refine wq_as 22 d30_21 rfl rfl rfl (vp_in_iff.mpr (by simp only [i_lt, i_le, i_eq, ne_eq, Int32.reduceToInt, b2_0, b2_1, decide_eq_true_eq, decide_eq_false_iff_not, Bool.not_eq_true, Bool.not_eq_false] at * <;> omega)) ?_
  refine wq_l 23 d30_22 rfl rfl rfl rfl ?_
  refine wq_gr (ci := 2) (j := 3) (q := 17) 26 d30_23 rfl rfl rfl rfl ?_
  refine wq_l 27 d30_26 rfl rfl rfl rfl ?_
  refine wq_gi (ci := 2) (j := 5) 30 d30_27 rfl rfl rfl rfl ?_
  simp only [pm_r1r, h5]
  refine wq_l 31 d30_30 rfl rfl rfl rfl ?_
  refine wq_as 32 d30_31 rfl rfl rfl (vp_in_iff.mpr (by simp only [i_lt, i_le, i_eq, ne_eq, Int32.reduceToInt, b2_0, b2_1, decide_eq_true_eq, decide_eq_false_iff_not, Bool.not_eq_true, Bool.not_eq_false] at * <;> omega)) ?_
  refine wq_l 33 d30_32 rfl rfl rfl rfl ?_
  refine wq_gr (ci := 2) (j := 4) (q := 18) 36 d30_33 rfl rfl rfl rfl ?_
  refine wq_l 37 d30_36 rfl rfl rfl rfl ?_
  refine wq_gi (ci := 2) (j := 5) 40 d30_37 rfl rfl rfl rfl ?_
  simp only [pm_r1r, h5]
  refine wq_l 41 d30_40 rfl rfl rfl rfl ?_
  refine wq_as 42 d30_41 rfl rfl rfl (vp_in_iff.mpr (by simp only [i_lt, i_le, i_eq, ne_eq, Int32.reduceToInt, b2_0, b2_1, decide_eq_true_eq, decide_eq_false_iff_not, Bool.not_eq_true, Bool.not_eq_false] at * <;> omega)) ?_
  refine wq_l 43 d30_42 rfl rfl rfl rfl ?_
  refine wq_a 44 d30_43 rfl rfl ?_
  refine wq_gi (ci := 2) (j := 5) 47 d30_44 rfl rfl rfl rfl ?_
  simp only [pm_r1r, h5]
  refine wq_k 48 1 d30_47 (by decide) rfl ?_
  refine wq_a 49 d30_48 rfl rfl ?_
  rw [show nI c + 1 = nI (c + 1) from (nI_succ c).symm]
  refine wq_pf (ci := 2) (j := 5) 52 d30_49 rfl rfl rfl ⟨rfl, rfl⟩ rfl ?_
  rw [ek]
  refine wq_rv d30_52 ?_
  exact hQ
theorem sp29 {d : Nat} {σ : pm_S} {Q : Option Value → pm_S → Prop} {c : Nat} {x y : Int32} (h5 : σ.1 2 5 = nI c) (hc : c < 8193) (hQ : Q (some (.int 0)) (la σ c 45 y x)) : pm_call pm_Y0 (d + 2) 29 [.ref 2, .int x, .int y] σ Q := by
  refine wq_m m29 (Nat.le_of_ble_eq_true rfl) (by decide) rfl ?_
  refine wq_l 1 d29_0 rfl rfl rfl rfl ?_
  refine wq_k 3 45 d29_1 (by decide) rfl ?_
  refine wq_l 4 d29_3 rfl rfl rfl rfl ?_
  refine wq_l 5 d29_4 rfl rfl rfl rfl ?_
  refine wq_v 8 [_, _, _] d29_5 rfl rfl m30 rfl rfl (Nat.le_of_ble_eq_true rfl) rfl (sp30 h5 hc ?_)
  refine wq_k 9 0 d29_8 (by decide) rfl ?_
  refine wq_ri d29_9 (rfl) ?_
  exact hQ
theorem d37_0 : decode prog_9_method_24_code 0 = .ok (.aload_n 0, 1) := by decide +kernel
theorem d37_1 : decode prog_9_method_24_code 1 = .ok (.aload_n 0, 1) := by decide +kernel
theorem d37_2 : decode prog_9_method_24_code 2 = .ok (.getfield 36, 3) := by decide +kernel
theorem d37_5 : decode prog_9_method_24_code 5 = .ok (.invokevirtual 73, 3) := by decide +kernel
theorem d37_8 : decode prog_9_method_24_code 8 = .ok (.invokestatic 91, 3) := by decide +kernel
theorem d37_11 : decode prog_9_method_24_code 11 = .ok (.ifCond .ne 14, 3) := by decide +kernel
theorem d37_14 : decode prog_9_method_24_code 14 = .ok (.aload_n 0, 1) := by decide +kernel
theorem d37_15 : decode prog_9_method_24_code 15 = .ok (.getfield 39, 3) := by decide +kernel
theorem d37_18 : decode prog_9_method_24_code 18 = .ok (.ldc2_w 124, 3) := by decide +kernel
theorem d37_21 : decode prog_9_method_24_code 21 = .ok (.lcmp, 1) := by decide +kernel
theorem d37_22 : decode prog_9_method_24_code 22 = .ok (.ifCond .le 10, 3) := by decide +kernel
theorem d37_25 : decode prog_9_method_24_code 25 = .ok (.aload_n 0, 1) := by decide +kernel
theorem d37_26 : decode prog_9_method_24_code 26 = .ok (.iconst 4, 1) := by decide +kernel
theorem d37_27 : decode prog_9_method_24_code 27 = .ok (.iload_n 1, 1) := by decide +kernel
theorem d37_28 : decode prog_9_method_24_code 28 = .ok (.invokevirtual 69, 3) := by decide +kernel
theorem d37_31 : decode prog_9_method_24_code 31 = .ok (.ireturn, 1) := by decide +kernel
theorem d37_32 : decode prog_9_method_24_code 32 = .ok (.aload_n 0, 1) := by decide +kernel
theorem d37_33 : decode prog_9_method_24_code 33 = .ok (.bipush 42, 2) := by decide +kernel
theorem d37_35 : decode prog_9_method_24_code 35 = .ok (.iload_n 1, 1) := by decide +kernel
theorem d37_36 : decode prog_9_method_24_code 36 = .ok (.aload_n 0, 1) := by decide +kernel
theorem d37_37 : decode prog_9_method_24_code 37 = .ok (.getfield 39, 3) := by decide +kernel
theorem d37_40 : decode prog_9_method_24_code 40 = .ok (.l2i, 1) := by decide +kernel
theorem d37_41 : decode prog_9_method_24_code 41 = .ok (.invokevirtual 77, 3) := by decide +kernel
theorem d37_44 : decode prog_9_method_24_code 44 = .ok (.iconst 1, 1) := by decide +kernel
theorem d37_45 : decode prog_9_method_24_code 45 = .ok (.ireturn, 1) := by decide +kernel
theorem m37 : pm_m 37 = some (⟨"TypeRules$Tokens", "addNumber", "(I)Z"⟩, prog_9_method_24_code, 2, (some FieldType.boolean), 2, 1, 3) := rfl
theorem sp37 {d : Nat} {σ : pm_S} {Q : Option Value → pm_S → Prop} {t : Nat → Nat} {M c : Nat} {e q w v : Nat} (hT : lx_T σ t M) (h5 : σ.1 2 5 = nI c) (hc : c < 8193) (he : e < 2 ^ 30) (hw : w < 2 ^ 62) (h1 : 2147483647 < w ↔ 2147483647 < v) (h2 : v ≤ 2147483647 → w = v) (hQ : lx_Q Q σ c q (lx_fin t M e v)) : pm_call pm_Y0 (d + 3) 37 [.ref 2, .int (nI q)] (ls σ e (lN w)) Q := by
  have hT' : lx_T (ls σ e (lN w)) t M := hT
  have e0 := lx_ci (M := M) hT.2.2.2 e
  have ew := lN_t hw
  have hb : (lx_np (lx_i t M e) = true ∨ 2147483647 < v) → Q (some (.int 0)) (la (ls σ e (lN w)) c 45 (nI q) 4) := fun h => by
    rw [show lx_fin t M e v = (45, 4, e) from if_pos h] at hQ
    exact hQ e (lN w) (fun z => absurd rfl z)
  have hg : ¬ (lx_np (lx_i t M e) = true ∨ 2147483647 < v) → Q (some (.int 1)) (la (ls σ e (lN w)) c 42 (nI q) (nI w)) := fun h => by
    rw [show lx_fin t M e v = (42, v, e) from if_neg h] at hQ
    rw [h2 (by omega)]
    exact hQ e (lN v) (fun _ => rfl)
  clear hQ
  refine wq_m m37 (Nat.le_of_ble_eq_true rfl) (by decide) rfl ?_
  refine wq_l 1 d37_0 rfl rfl rfl rfl ?_
  refine wq_l 2 d37_1 rfl rfl rfl rfl ?_
  refine wq_gi (ci := 2) (j := 7) 5 d37_2 rfl rfl rfl rfl ?_
  rw [ls_7]
  refine wq_v 8 [_] d37_5 rfl rfl m27 rfl rfl (Nat.le_of_ble_eq_true rfl) rfl (sp27 hT' he ?_)
  refine wq_vs 11 [_] d37_8 rfl rfl m38 rfl (Nat.le_of_ble_eq_true rfl) rfl (sp38 ?_)
  refine wq_b 25 14 d37_11 rfl (by decide) rfl (fun c11 => ?_) (fun c11 => ?_)
  · -- pc 25
    have hb' := hb (by first | exact Or.inl (by simpa only [i_lt, i_le, i_eq, ne_eq, Int32.reduceToInt, b2_0, b2_1, decide_eq_true_eq, decide_eq_false_iff_not, Bool.not_eq_true, Bool.not_eq_false, e0] using c11) | exact Or.inr (by have z := c22; simp only [lc_le, ew, Int64.reduceToInt] at z; omega))
    refine wq_l 26 d37_25 rfl rfl rfl rfl ?_
    refine wq_k 27 4 d37_26 (by decide) rfl ?_
    refine wq_l 28 d37_27 rfl rfl rfl rfl ?_
    refine wq_v 31 [_, _] d37_28 rfl rfl m29 rfl rfl (Nat.le_of_ble_eq_true rfl) rfl (sp29 h5 hc ?_)
    refine wq_ri d37_31 (rfl) ?_
    exact hb'
  · -- pc 14
    refine wq_l 15 d37_14 rfl rfl rfl rfl ?_
    refine wq_gl (ci := 2) (j := 8) 18 d37_15 rfl rfl rfl rfl ?_
    rw [ls_8]
    refine wq_cl 21 d37_18 rfl rfl ?_
    refine wq_a 22 d37_21 rfl rfl ?_
    refine wq_b 32 25 d37_22 rfl (by decide) rfl (fun c22 => ?_) (fun c22 => ?_)
    · -- pc 32
      have hg' := hg (by have z := c22; simp only [lc_le, ew, Int64.reduceToInt] at z; rintro (q | q); exact absurd q (by simpa only [i_lt, i_le, i_eq, ne_eq, Int32.reduceToInt, b2_0, b2_1, decide_eq_true_eq, decide_eq_false_iff_not, Bool.not_eq_true, Bool.not_eq_false, e0] using c11); omega)
      refine wq_l 33 d37_32 rfl rfl rfl rfl ?_
      refine wq_k 35 42 d37_33 (by decide) rfl ?_
      refine wq_l 36 d37_35 rfl rfl rfl rfl ?_
      refine wq_l 37 d37_36 rfl rfl rfl rfl ?_
      refine wq_gl (ci := 2) (j := 8) 40 d37_37 rfl rfl rfl rfl ?_
      rw [ls_8]
      refine wq_a 41 d37_40 rfl rfl ?_
      rw [lN_i]
      refine wq_v 44 [_, _, _] d37_41 rfl rfl m30 rfl rfl (Nat.le_of_ble_eq_true rfl) rfl (sp30 h5 hc ?_)
      refine wq_k 45 1 d37_44 (by decide) rfl ?_
      refine wq_ri d37_45 (rfl) ?_
      exact hg'
    · -- pc 25
      have hb' := hb (by first | exact Or.inl (by simpa only [i_lt, i_le, i_eq, ne_eq, Int32.reduceToInt, b2_0, b2_1, decide_eq_true_eq, decide_eq_false_iff_not, Bool.not_eq_true, Bool.not_eq_false, e0] using c11) | exact Or.inr (by have z := c22; simp only [lc_le, ew, Int64.reduceToInt] at z; omega))
      refine wq_l 26 d37_25 rfl rfl rfl rfl ?_
      refine wq_k 27 4 d37_26 (by decide) rfl ?_
      refine wq_l 28 d37_27 rfl rfl rfl rfl ?_
      refine wq_v 31 [_, _] d37_28 rfl rfl m29 rfl rfl (Nat.le_of_ble_eq_true rfl) rfl (sp29 h5 hc ?_)
      refine wq_ri d37_31 (rfl) ?_
      exact hb'
theorem d39_0 : decode prog_9_method_22_code 0 = .ok (.aload_n 0, 1) := by decide +kernel
theorem d39_1 : decode prog_9_method_22_code 1 = .ok (.getfield 36, 3) := by decide +kernel
theorem d39_4 : decode prog_9_method_22_code 4 = .ok (.istore_n 1, 1) := by decide +kernel
theorem d39_5 : decode prog_9_method_22_code 5 = .ok (.aload_n 0, 1) := by decide +kernel
theorem d39_6 : decode prog_9_method_22_code 6 = .ok (.bipush 10, 2) := by decide +kernel
theorem d39_8 : decode prog_9_method_22_code 8 = .ok (.invokevirtual 110, 3) := by decide +kernel
theorem d39_11 : decode prog_9_method_22_code 11 = .ok (.pop, 1) := by decide +kernel
theorem d39_12 : decode prog_9_method_22_code 12 = .ok (.aload_n 0, 1) := by decide +kernel
theorem d39_13 : decode prog_9_method_22_code 13 = .ok (.aload_n 0, 1) := by decide +kernel
theorem d39_14 : decode prog_9_method_22_code 14 = .ok (.getfield 36, 3) := by decide +kernel
theorem d39_17 : decode prog_9_method_22_code 17 = .ok (.invokevirtual 73, 3) := by decide +kernel
theorem d39_20 : decode prog_9_method_22_code 20 = .ok (.bipush 35, 2) := by decide +kernel
theorem d39_22 : decode prog_9_method_22_code 22 = .ok (.if_icmp .ne 54, 3) := by decide +kernel
theorem d39_25 : decode prog_9_method_22_code 25 = .ok (.aload_n 0, 1) := by decide +kernel
theorem d39_26 : decode prog_9_method_22_code 26 = .ok (.dup, 1) := by decide +kernel
theorem d39_27 : decode prog_9_method_22_code 27 = .ok (.getfield 36, 3) := by decide +kernel
theorem d39_30 : decode prog_9_method_22_code 30 = .ok (.iconst 1, 1) := by decide +kernel
theorem d39_31 : decode prog_9_method_22_code 31 = .ok (.iadd, 1) := by decide +kernel
theorem d39_32 : decode prog_9_method_22_code 32 = .ok (.putfield 36, 3) := by decide +kernel
theorem d39_35 : decode prog_9_method_22_code 35 = .ok (.aload_n 0, 1) := by decide +kernel
theorem d39_36 : decode prog_9_method_22_code 36 = .ok (.getfield 39, 3) := by decide +kernel
theorem d39_39 : decode prog_9_method_22_code 39 = .ok (.ldc2_w 113, 3) := by decide +kernel
theorem d39_42 : decode prog_9_method_22_code 42 = .ok (.lcmp, 1) := by decide +kernel
theorem d39_43 : decode prog_9_method_22_code 43 = .ok (.ifCond .eq 14, 3) := by decide +kernel
theorem d39_46 : decode prog_9_method_22_code 46 = .ok (.aload_n 0, 1) := by decide +kernel
theorem d39_47 : decode prog_9_method_22_code 47 = .ok (.getfield 39, 3) := by decide +kernel
theorem d39_50 : decode prog_9_method_22_code 50 = .ok (.ldc2_w 115, 3) := by decide +kernel
theorem d39_53 : decode prog_9_method_22_code 53 = .ok (.lcmp, 1) := by decide +kernel
theorem d39_54 : decode prog_9_method_22_code 54 = .ok (.ifCond .ne 15, 3) := by decide +kernel
theorem d39_57 : decode prog_9_method_22_code 57 = .ok (.aload_n 0, 1) := by decide +kernel
theorem d39_58 : decode prog_9_method_22_code 58 = .ok (.aload_n 0, 1) := by decide +kernel
theorem d39_59 : decode prog_9_method_22_code 59 = .ok (.getfield 39, 3) := by decide +kernel
theorem d39_62 : decode prog_9_method_22_code 62 = .ok (.l2i, 1) := by decide +kernel
theorem d39_63 : decode prog_9_method_22_code 63 = .ok (.invokevirtual 110, 3) := by decide +kernel
theorem d39_66 : decode prog_9_method_22_code 66 = .ok (.ifCond .ne 10, 3) := by decide +kernel
theorem d39_69 : decode prog_9_method_22_code 69 = .ok (.aload_n 0, 1) := by decide +kernel
theorem d39_70 : decode prog_9_method_22_code 70 = .ok (.iconst 4, 1) := by decide +kernel
theorem d39_71 : decode prog_9_method_22_code 71 = .ok (.iload_n 1, 1) := by decide +kernel
theorem d39_72 : decode prog_9_method_22_code 72 = .ok (.invokevirtual 69, 3) := by decide +kernel
theorem d39_75 : decode prog_9_method_22_code 75 = .ok (.ireturn, 1) := by decide +kernel
theorem d39_76 : decode prog_9_method_22_code 76 = .ok (.aload_n 0, 1) := by decide +kernel
theorem d39_77 : decode prog_9_method_22_code 77 = .ok (.iload_n 1, 1) := by decide +kernel
theorem d39_78 : decode prog_9_method_22_code 78 = .ok (.invokevirtual 117, 3) := by decide +kernel
theorem d39_81 : decode prog_9_method_22_code 81 = .ok (.ireturn, 1) := by decide +kernel
theorem m39 : pm_m 39 = some (⟨"TypeRules$Tokens", "readNumber", "()Z"⟩, prog_9_method_22_code, 2, (some FieldType.boolean), 2, 0, 3) := rfl
theorem lx_cap {x v b : Nat} (h : min x 4294967296 = v) (hv : v < 4294967296) : x = v := by omega
theorem lx_w {v : Nat} : (2147483647 < min v 4294967296 ↔ 2147483647 < v) ∧ (v ≤ 2147483647 → min v 4294967296 = v) := by omega
theorem sp39 {d : Nat} {σ : pm_S} {Q : Option Value → pm_S → Prop} {t : Nat → Nat} {M c : Nat} {p : Nat} {a : Int64} (hT : lx_T σ t M) (h5 : σ.1 2 5 = nI c) (hc : c < 8193) (hp : p < M) (hQ : lx_Q Q σ c p (lx_num t M p)) : pm_call pm_Y0 (d + 4) 39 [.ref 2] (ls σ p a) Q := by
  have hT' := hT
  obtain ⟨hL, hM, hch, ht⟩ := hT'
  have b1 := lx_de_b (t := t) (M := M) (b := 10) (M - p) p
  have hde : lx_de t M 10 p ≤ M := b1.2 (by omega)
  generalize hE : lx_de t M 10 p = e at *
  generalize hV : lx_dv t M 10 p 0 = V at *
  have e0 := lx_ci (M := M) ht e
  have ew := lN_t (n := min V 4294967296) (by omega)
  have hf : ¬ lx_i t M e = 35 → lx_Q Q σ c p (lx_fin t M e V) := fun h => by rw [show lx_num t M p = lx_fin t M e V from by unfold lx_num; rw [hE, hV]; exact if_neg h] at hQ; exact hQ
  have hbad : lx_i t M e = 35 → ¬ ((V = 16 ∨ V = 2) ∧ lx_de t M V (e + 1) ≠ e + 1) → ∀ e' a', Q (some (.int 0)) (la (ls σ e' a') c 45 (nI p) 4) := fun h h' e' a' => by
    rw [show lx_num t M p = (45, 4, p) from by unfold lx_num; rw [hE, hV, if_pos h]; exact if_neg h'] at hQ
    exact hQ e' a' (fun z => absurd rfl z)
  have hgd : lx_i t M e = 35 → ((V = 16 ∨ V = 2) ∧ lx_de t M V (e + 1) ≠ e + 1) → lx_Q Q σ c p (lx_fin t M (lx_de t M V (e + 1)) (lx_dv t M V (e + 1) 0)) := fun h h' => by
    rw [show lx_num t M p = lx_fin t M (lx_de t M V (e + 1)) (lx_dv t M V (e + 1) 0) from by unfold lx_num; rw [hE, hV, if_pos h]; exact if_pos h'] at hQ
    exact hQ
  have h35 : lx_i t M e = 35 → e < M := fun h => lx_i_in (t := t) (M := M) (p := e) (fun z => by rw [h] at z; exact absurd z (by decide))
  clear hQ
  refine wq_m m39 (Nat.le_of_ble_eq_true rfl) (by decide) rfl ?_
  refine wq_l 1 d39_0 rfl rfl rfl rfl ?_
  refine wq_gi (ci := 2) (j := 7) 4 d39_1 rfl rfl rfl rfl ?_
  rw [ls_7]
  refine wq_s 5 d39_4 rfl rfl (Nat.le_of_ble_eq_true rfl) rfl rfl ?_
  refine wq_l 6 d39_5 rfl rfl rfl rfl ?_
  refine wq_k 8 10 d39_6 (by decide) rfl ?_
  refine wq_v 11 [_] d39_8 rfl rfl m32 rfl rfl (Nat.le_of_ble_eq_true rfl) rfl (sp32 (b := 10) hT (by decide) (by omega) ?_)
  rw [hE, hV]
  refine wq_a 12 d39_11 rfl rfl ?_
  refine wq_l 13 d39_12 rfl rfl rfl rfl ?_
  refine wq_l 14 d39_13 rfl rfl rfl rfl ?_
  refine wq_gi (ci := 2) (j := 7) 17 d39_14 rfl rfl rfl rfl ?_
  rw [ls_7]
  refine wq_v 20 [_] d39_17 rfl rfl m27 rfl rfl (Nat.le_of_ble_eq_true rfl) rfl (sp27 (ls_T hT) (by omega) ?_)
  refine wq_k 22 35 d39_20 (by decide) rfl ?_
  refine wq_b 76 25 d39_22 rfl (by decide) rfl (fun c22 => ?_) (fun c22 => ?_)
  · -- pc 76
    first
      | (have q35 : ¬ lx_i t M e = 35 := by have z := c22; simp only [i_lt, i_le, i_eq, ne_eq, Int32.reduceToInt, b2_0, b2_1, decide_eq_true_eq, decide_eq_false_iff_not, Bool.not_eq_true, Bool.not_eq_false, e0] at z; omega
         refine wq_l 77 d39_76 rfl rfl rfl rfl ?_
         refine wq_l 78 d39_77 rfl rfl rfl rfl ?_
         refine wq_v 81 [_] d39_78 rfl rfl m37 rfl rfl (Nat.le_of_ble_eq_true rfl) rfl (sp37 hT h5 hc (by omega) (by omega) lx_w.1 lx_w.2 (fun e' a' h => ?_))
         refine wq_ri d39_81 (b2_nar _) ?_
         exact hf q35 e' a' h)
      | (have z1 := c66
         simp only [i_lt, i_le, i_eq, ne_eq, Int32.reduceToInt, b2_0, b2_1, decide_eq_true_eq, decide_eq_false_iff_not, Bool.not_eq_true, Bool.not_eq_false, eL] at z1
         refine wq_l 77 d39_76 rfl rfl rfl rfl ?_
         refine wq_l 78 d39_77 rfl rfl rfl rfl ?_
         refine wq_v 81 [_] d39_78 rfl rfl m37 rfl rfl (Nat.le_of_ble_eq_true rfl) rfl (sp37 hT h5 hc (by omega) (by omega) lx_w.1 lx_w.2 (fun e' a' h => ?_))
         refine wq_ri d39_81 (b2_nar _) ?_
         exact hgd q35 ⟨qV, by omega⟩ e' a' h)
  · -- pc 25
    have q35 : lx_i t M e = 35 := by have z := c22; simp only [i_lt, i_le, i_eq, ne_eq, Int32.reduceToInt, b2_0, b2_1, decide_eq_true_eq, decide_eq_false_iff_not, Bool.not_eq_true, Bool.not_eq_false, e0] at z; omega
    have q35M := h35 q35
    refine wq_l 26 d39_25 rfl rfl rfl rfl ?_
    refine wq_a 27 d39_26 rfl rfl ?_
    refine wq_gi (ci := 2) (j := 7) 30 d39_27 rfl rfl rfl rfl ?_
    rw [ls_7]
    refine wq_k 31 1 d39_30 (by decide) rfl ?_
    refine wq_a 32 d39_31 rfl rfl ?_
    refine wq_pf (ci := 2) (j := 7) 35 d39_32 rfl rfl rfl ⟨rfl, rfl⟩ rfl ?_
    rw [show nI e + 1 = nI (e + 1) from (nI_succ e).symm, ls_p7]
    refine wq_l 36 d39_35 rfl rfl rfl rfl ?_
    refine wq_gl (ci := 2) (j := 8) 39 d39_36 rfl rfl rfl rfl ?_
    rw [ls_8]
    refine wq_cl 42 d39_39 rfl rfl ?_
    refine wq_a 43 d39_42 rfl rfl ?_
    refine wq_b 57 46 d39_43 rfl (by decide) rfl (fun c43 => ?_) (fun c43 => ?_)
    · -- pc 57
      have qV : V = 16 ∨ V = 2 := by first | (have z := c43; simp only [lc_eq, ew, Int64.reduceToInt] at z; omega) | (have z := c54; simp only [lc_eq, ew, Int64.reduceToInt, ne_eq, Classical.not_not] at z; omega)
      have qm : min V 4294967296 = V := by omega
      have b2 := lx_de_b (t := t) (M := M) (b := V) (M - (e + 1)) (e + 1)
      have b2M : lx_de t M V (e + 1) ≤ M := b2.2 (by omega)
      have b2L : e + 1 ≤ lx_de t M V (e + 1) := b2.1
      have eL := nI_toInt (n := lx_de t M V (e + 1) - (e + 1)) (by omega)
      refine wq_l 58 d39_57 rfl rfl rfl rfl ?_
      refine wq_l 59 d39_58 rfl rfl rfl rfl ?_
      refine wq_gl (ci := 2) (j := 8) 62 d39_59 rfl rfl rfl rfl ?_
      rw [ls_8]
      refine wq_a 63 d39_62 rfl rfl ?_
      rw [lN_i, qm]
      refine wq_v 66 [_] d39_63 rfl rfl m32 rfl rfl (Nat.le_of_ble_eq_true rfl) rfl (sp32 hT (by omega) (by omega) ?_)
      refine wq_b 76 69 d39_66 rfl (by decide) rfl (fun c66 => ?_) (fun c66 => ?_)
      · -- pc 76
        first
          | (have q35 : ¬ lx_i t M e = 35 := by have z := c22; simp only [i_lt, i_le, i_eq, ne_eq, Int32.reduceToInt, b2_0, b2_1, decide_eq_true_eq, decide_eq_false_iff_not, Bool.not_eq_true, Bool.not_eq_false, e0] at z; omega
             refine wq_l 77 d39_76 rfl rfl rfl rfl ?_
             refine wq_l 78 d39_77 rfl rfl rfl rfl ?_
             refine wq_v 81 [_] d39_78 rfl rfl m37 rfl rfl (Nat.le_of_ble_eq_true rfl) rfl (sp37 hT h5 hc (by omega) (by omega) lx_w.1 lx_w.2 (fun e' a' h => ?_))
             refine wq_ri d39_81 (b2_nar _) ?_
             exact hf q35 e' a' h)
          | (have z1 := c66
             simp only [i_lt, i_le, i_eq, ne_eq, Int32.reduceToInt, b2_0, b2_1, decide_eq_true_eq, decide_eq_false_iff_not, Bool.not_eq_true, Bool.not_eq_false, eL] at z1
             refine wq_l 77 d39_76 rfl rfl rfl rfl ?_
             refine wq_l 78 d39_77 rfl rfl rfl rfl ?_
             refine wq_v 81 [_] d39_78 rfl rfl m37 rfl rfl (Nat.le_of_ble_eq_true rfl) rfl (sp37 hT h5 hc (by omega) (by omega) lx_w.1 lx_w.2 (fun e' a' h => ?_))
             refine wq_ri d39_81 (b2_nar _) ?_
             exact hgd q35 ⟨qV, by omega⟩ e' a' h)
      · -- pc 69
        refine wq_l 70 d39_69 rfl rfl rfl rfl ?_
        refine wq_k 71 4 d39_70 (by decide) rfl ?_
        refine wq_l 72 d39_71 rfl rfl rfl rfl ?_
        refine wq_v 75 [_, _] d39_72 rfl rfl m29 rfl rfl (Nat.le_of_ble_eq_true rfl) rfl (sp29 h5 hc ?_)
        refine wq_ri d39_75 (rfl) ?_
        first | exact hbad q35 (by rintro ⟨z, _⟩; have z1 := c43; have z2 := c54; simp only [lc_eq, ew, Int64.reduceToInt, ne_eq, Classical.not_not] at z1 z2; omega) _ _ | exact hbad q35 (by rintro ⟨_, z⟩; have z1 := c66; simp only [i_lt, i_le, i_eq, ne_eq, Int32.reduceToInt, b2_0, b2_1, decide_eq_true_eq, decide_eq_false_iff_not, Bool.not_eq_true, Bool.not_eq_false, eL] at z1; omega) _ _
    · -- pc 46
      refine wq_l 47 d39_46 rfl rfl rfl rfl ?_
      refine wq_gl (ci := 2) (j := 8) 50 d39_47 rfl rfl rfl rfl ?_
      rw [ls_8]
      refine wq_cl 53 d39_50 rfl rfl ?_
      refine wq_a 54 d39_53 rfl rfl ?_
      refine wq_b 69 57 d39_54 rfl (by decide) rfl (fun c54 => ?_) (fun c54 => ?_)
      · -- pc 69
        refine wq_l 70 d39_69 rfl rfl rfl rfl ?_
        refine wq_k 71 4 d39_70 (by decide) rfl ?_
        refine wq_l 72 d39_71 rfl rfl rfl rfl ?_
        refine wq_v 75 [_, _] d39_72 rfl rfl m29 rfl rfl (Nat.le_of_ble_eq_true rfl) rfl (sp29 h5 hc ?_)
        refine wq_ri d39_75 (rfl) ?_
        first | exact hbad q35 (by rintro ⟨z, _⟩; have z1 := c43; have z2 := c54; simp only [lc_eq, ew, Int64.reduceToInt, ne_eq, Classical.not_not] at z1 z2; omega) _ _ | exact hbad q35 (by rintro ⟨_, z⟩; have z1 := c66; simp only [i_lt, i_le, i_eq, ne_eq, Int32.reduceToInt, b2_0, b2_1, decide_eq_true_eq, decide_eq_false_iff_not, Bool.not_eq_true, Bool.not_eq_false, eL] at z1; omega) _ _
      · -- pc 57
        have qV : V = 16 ∨ V = 2 := by first | (have z := c43; simp only [lc_eq, ew, Int64.reduceToInt] at z; omega) | (have z := c54; simp only [lc_eq, ew, Int64.reduceToInt, ne_eq, Classical.not_not] at z; omega)
        have qm : min V 4294967296 = V := by omega
        have b2 := lx_de_b (t := t) (M := M) (b := V) (M - (e + 1)) (e + 1)
        have b2M : lx_de t M V (e + 1) ≤ M := b2.2 (by omega)
        have b2L : e + 1 ≤ lx_de t M V (e + 1) := b2.1
        have eL := nI_toInt (n := lx_de t M V (e + 1) - (e + 1)) (by omega)
        refine wq_l 58 d39_57 rfl rfl rfl rfl ?_
        refine wq_l 59 d39_58 rfl rfl rfl rfl ?_
        refine wq_gl (ci := 2) (j := 8) 62 d39_59 rfl rfl rfl rfl ?_
        rw [ls_8]
        refine wq_a 63 d39_62 rfl rfl ?_
        rw [lN_i, qm]
        refine wq_v 66 [_] d39_63 rfl rfl m32 rfl rfl (Nat.le_of_ble_eq_true rfl) rfl (sp32 hT (by omega) (by omega) ?_)
        refine wq_b 76 69 d39_66 rfl (by decide) rfl (fun c66 => ?_) (fun c66 => ?_)
        · -- pc 76
          first
            | (have q35 : ¬ lx_i t M e = 35 := by have z := c22; simp only [i_lt, i_le, i_eq, ne_eq, Int32.reduceToInt, b2_0, b2_1, decide_eq_true_eq, decide_eq_false_iff_not, Bool.not_eq_true, Bool.not_eq_false, e0] at z; omega
               refine wq_l 77 d39_76 rfl rfl rfl rfl ?_
               refine wq_l 78 d39_77 rfl rfl rfl rfl ?_
               refine wq_v 81 [_] d39_78 rfl rfl m37 rfl rfl (Nat.le_of_ble_eq_true rfl) rfl (sp37 hT h5 hc (by omega) (by omega) lx_w.1 lx_w.2 (fun e' a' h => ?_))
               refine wq_ri d39_81 (b2_nar _) ?_
               exact hf q35 e' a' h)
            | (have z1 := c66
               simp only [i_lt, i_le, i_eq, ne_eq, Int32.reduceToInt, b2_0, b2_1, decide_eq_true_eq, decide_eq_false_iff_not, Bool.not_eq_true, Bool.not_eq_false, eL] at z1
               refine wq_l 77 d39_76 rfl rfl rfl rfl ?_
               refine wq_l 78 d39_77 rfl rfl rfl rfl ?_
               refine wq_v 81 [_] d39_78 rfl rfl m37 rfl rfl (Nat.le_of_ble_eq_true rfl) rfl (sp37 hT h5 hc (by omega) (by omega) lx_w.1 lx_w.2 (fun e' a' h => ?_))
               refine wq_ri d39_81 (b2_nar _) ?_
               exact hgd q35 ⟨qV, by omega⟩ e' a' h)
        · -- pc 69
          refine wq_l 70 d39_69 rfl rfl rfl rfl ?_
          refine wq_k 71 4 d39_70 (by decide) rfl ?_
          refine wq_l 72 d39_71 rfl rfl rfl rfl ?_
          refine wq_v 75 [_, _] d39_72 rfl rfl m29 rfl rfl (Nat.le_of_ble_eq_true rfl) rfl (sp29 h5 hc ?_)
          refine wq_ri d39_75 (rfl) ?_
          first | exact hbad q35 (by rintro ⟨z, _⟩; have z1 := c43; have z2 := c54; simp only [lc_eq, ew, Int64.reduceToInt, ne_eq, Classical.not_not] at z1 z2; omega) _ _ | exact hbad q35 (by rintro ⟨_, z⟩; have z1 := c66; simp only [i_lt, i_le, i_eq, ne_eq, Int32.reduceToInt, b2_0, b2_1, decide_eq_true_eq, decide_eq_false_iff_not, Bool.not_eq_true, Bool.not_eq_false, eL] at z1; omega) _ _
theorem d31_0 : decode prog_9_method_23_code 0 = .ok (.aload_n 0, 1) := by decide +kernel
theorem d31_1 : decode prog_9_method_23_code 1 = .ok (.getfield 36, 3) := by decide +kernel
theorem d31_4 : decode prog_9_method_23_code 4 = .ok (.istore_n 1, 1) := by decide +kernel
theorem d31_5 : decode prog_9_method_23_code 5 = .ok (.aload_n 0, 1) := by decide +kernel
theorem d31_6 : decode prog_9_method_23_code 6 = .ok (.dup, 1) := by decide +kernel
theorem d31_7 : decode prog_9_method_23_code 7 = .ok (.getfield 36, 3) := by decide +kernel
theorem d31_10 : decode prog_9_method_23_code 10 = .ok (.iconst 2, 1) := by decide +kernel
theorem d31_11 : decode prog_9_method_23_code 11 = .ok (.iadd, 1) := by decide +kernel
theorem d31_12 : decode prog_9_method_23_code 12 = .ok (.putfield 36, 3) := by decide +kernel
theorem d31_15 : decode prog_9_method_23_code 15 = .ok (.aload_n 0, 1) := by decide +kernel
theorem d31_16 : decode prog_9_method_23_code 16 = .ok (.bipush 10, 2) := by decide +kernel
theorem d31_18 : decode prog_9_method_23_code 18 = .ok (.invokevirtual 110, 3) := by decide +kernel
theorem d31_21 : decode prog_9_method_23_code 21 = .ok (.istore_n 2, 1) := by decide +kernel
theorem d31_22 : decode prog_9_method_23_code 22 = .ok (.aload_n 0, 1) := by decide +kernel
theorem d31_23 : decode prog_9_method_23_code 23 = .ok (.invokevirtual 120, 3) := by decide +kernel
theorem d31_26 : decode prog_9_method_23_code 26 = .ok (.istore_n 3, 1) := by decide +kernel
theorem d31_27 : decode prog_9_method_23_code 27 = .ok (.iload_n 2, 1) := by decide +kernel
theorem d31_28 : decode prog_9_method_23_code 28 = .ok (.ifCond .eq 7, 3) := by decide +kernel
theorem d31_31 : decode prog_9_method_23_code 31 = .ok (.iload_n 3, 1) := by decide +kernel
theorem d31_32 : decode prog_9_method_23_code 32 = .ok (.ifCond .ne 10, 3) := by decide +kernel
theorem d31_35 : decode prog_9_method_23_code 35 = .ok (.aload_n 0, 1) := by decide +kernel
theorem d31_36 : decode prog_9_method_23_code 36 = .ok (.iconst 4, 1) := by decide +kernel
theorem d31_37 : decode prog_9_method_23_code 37 = .ok (.iload_n 1, 1) := by decide +kernel
theorem d31_38 : decode prog_9_method_23_code 38 = .ok (.invokevirtual 69, 3) := by decide +kernel
theorem d31_41 : decode prog_9_method_23_code 41 = .ok (.ireturn, 1) := by decide +kernel
theorem d31_42 : decode prog_9_method_23_code 42 = .ok (.aload_n 0, 1) := by decide +kernel
theorem d31_43 : decode prog_9_method_23_code 43 = .ok (.dup, 1) := by decide +kernel
theorem d31_44 : decode prog_9_method_23_code 44 = .ok (.getfield 39, 3) := by decide +kernel
theorem d31_47 : decode prog_9_method_23_code 47 = .ok (.iload_n 3, 1) := by decide +kernel
theorem d31_48 : decode prog_9_method_23_code 48 = .ok (.i2l, 1) := by decide +kernel
theorem d31_49 : decode prog_9_method_23_code 49 = .ok (.lmul, 1) := by decide +kernel
theorem d31_50 : decode prog_9_method_23_code 50 = .ok (.putfield 39, 3) := by decide +kernel
theorem d31_53 : decode prog_9_method_23_code 53 = .ok (.aload_n 0, 1) := by decide +kernel
theorem d31_54 : decode prog_9_method_23_code 54 = .ok (.iload_n 1, 1) := by decide +kernel
theorem d31_55 : decode prog_9_method_23_code 55 = .ok (.invokevirtual 117, 3) := by decide +kernel
theorem d31_58 : decode prog_9_method_23_code 58 = .ok (.ireturn, 1) := by decide +kernel
theorem m31 : pm_m 31 = some (⟨"TypeRules$Tokens", "readTime", "()Z"⟩, prog_9_method_23_code, 4, (some FieldType.boolean), 2, 0, 3) := rfl
theorem lx_unit_b (t : Nat → Nat) (M p : Nat) : (lx_unit t M p).1 ≤ 3600000 ∧ (lx_unit t M p).2 ≤ 2 := by
  unfold lx_unit
  repeat' split
  all_goals decide
theorem lx_wu {v u : Nat} (hu : 1 ≤ u) (h3 : u ≤ 3600000) : min v 4294967296 * u < 2 ^ 62 ∧ (2147483647 < min v 4294967296 * u ↔ 2147483647 < v * u) ∧ (v * u ≤ 2147483647 → min v 4294967296 * u = v * u) := by
  have h1 : min v 4294967296 * u ≤ 4294967296 * 3600000 := Nat.mul_le_mul (by omega) h3
  refine ⟨by omega, ?_⟩
  by_cases h : v ≤ 4294967296
  · rw [show min v 4294967296 = v by omega]
    exact ⟨Iff.rfl, fun _ => rfl⟩
  · rw [show min v 4294967296 = 4294967296 by omega]
    have a1 : 4294967296 ≤ 4294967296 * u := Nat.le_mul_of_pos_right _ hu
    have a2 : v ≤ v * u := Nat.le_mul_of_pos_right _ hu
    omega
theorem sp31 {d : Nat} {σ : pm_S} {Q : Option Value → pm_S → Prop} {t : Nat → Nat} {M c : Nat} {p : Nat} {a : Int64} (hT : lx_T σ t M) (h5 : σ.1 2 5 = nI c) (hc : c < 8193) (hp : p + 1 < M) (hQ : lx_Q Q σ c p (lx_tim t M p)) : pm_call pm_Y0 (d + 4) 31 [.ref 2] (ls σ p a) Q := by
  have hT' := hT
  obtain ⟨hL, hM, hch, ht⟩ := hT'
  have b1 := lx_de_b (t := t) (M := M) (b := 10) (M - (p + 2)) (p + 2)
  have hde : lx_de t M 10 (p + 2) ≤ M := b1.2 (by omega)
  have hdl : p + 2 ≤ lx_de t M 10 (p + 2) := b1.1
  generalize hE : lx_de t M 10 (p + 2) = e at *
  generalize hV : lx_dv t M 10 (p + 2) 0 = V at *
  have ub := lx_unit_b t M e
  generalize hU : lx_unit t M e = U at *
  have eU := nI_toInt (n := U.1) (by omega)
  have eD := nI_toInt (n := e - (p + 2)) (by omega)
  have hbad : (e = p + 2 ∨ U.1 = 0) → ∀ e' a', Q (some (.int 0)) (la (ls σ e' a') c 45 (nI p) 4) := fun h e' a' => by
    rw [show lx_tim t M p = (45, 4, p) from by unfold lx_tim; rw [hE, hU]; exact if_pos h] at hQ
    exact hQ e' a' (fun z => absurd rfl z)
  have hgd : ¬ (e = p + 2 ∨ U.1 = 0) → lx_Q Q σ c p (lx_fin t M (e + U.2) (V * U.1)) := fun h => by
    rw [show lx_tim t M p = lx_fin t M (e + U.2) (V * U.1) from by unfold lx_tim; rw [hE, hU, hV]; exact if_neg h] at hQ
    exact hQ
  clear hQ
  refine wq_m m31 (Nat.le_of_ble_eq_true rfl) (by decide) rfl ?_
  refine wq_l 1 d31_0 rfl rfl rfl rfl ?_
  refine wq_gi (ci := 2) (j := 7) 4 d31_1 rfl rfl rfl rfl ?_
  rw [ls_7]
  refine wq_s 5 d31_4 rfl rfl (Nat.le_of_ble_eq_true rfl) rfl rfl ?_
  refine wq_l 6 d31_5 rfl rfl rfl rfl ?_
  refine wq_a 7 d31_6 rfl rfl ?_
  refine wq_gi (ci := 2) (j := 7) 10 d31_7 rfl rfl rfl rfl ?_
  rw [ls_7]
  refine wq_k 11 2 d31_10 (by decide) rfl ?_
  refine wq_a 12 d31_11 rfl rfl ?_
  refine wq_pf (ci := 2) (j := 7) 15 d31_12 rfl rfl rfl ⟨rfl, rfl⟩ rfl ?_
  rw [show nI p + 2 = nI (p + 2) from nI_add p 2, ls_p7]
  refine wq_l 16 d31_15 rfl rfl rfl rfl ?_
  refine wq_k 18 10 d31_16 (by decide) rfl ?_
  refine wq_v 21 [_] d31_18 rfl rfl m32 rfl rfl (Nat.le_of_ble_eq_true rfl) rfl (sp32 (b := 10) hT (by decide) (by omega) ?_)
  rw [hE, hV]
  refine wq_s 22 d31_21 rfl rfl (Nat.le_of_ble_eq_true rfl) rfl rfl ?_
  refine wq_l 23 d31_22 rfl rfl rfl rfl ?_
  refine wq_v 26 [] d31_23 rfl rfl m35 rfl rfl (Nat.le_of_ble_eq_true rfl) rfl (sp35 hT (by omega) ?_)
  rw [hU]
  refine wq_s 27 d31_26 rfl rfl (Nat.le_of_ble_eq_true rfl) rfl rfl ?_
  refine wq_l 28 d31_27 rfl rfl rfl rfl ?_
  refine wq_b 35 31 d31_28 rfl (by decide) rfl (fun c28 => ?_) (fun c28 => ?_)
  · -- pc 35
    refine wq_l 36 d31_35 rfl rfl rfl rfl ?_
    refine wq_k 37 4 d31_36 (by decide) rfl ?_
    refine wq_l 38 d31_37 rfl rfl rfl rfl ?_
    refine wq_v 41 [_, _] d31_38 rfl rfl m29 rfl rfl (Nat.le_of_ble_eq_true rfl) rfl (sp29 h5 hc ?_)
    refine wq_ri d31_41 (rfl) ?_
    first | exact hbad (by have z := c28; simp only [i_lt, i_le, i_eq, ne_eq, Int32.reduceToInt, b2_0, b2_1, decide_eq_true_eq, decide_eq_false_iff_not, Bool.not_eq_true, Bool.not_eq_false, eD] at z; omega) _ _ | exact hbad (by have z := c32; simp only [i_lt, i_le, i_eq, ne_eq, Int32.reduceToInt, b2_0, b2_1, decide_eq_true_eq, decide_eq_false_iff_not, Bool.not_eq_true, Bool.not_eq_false, eU] at z; omega) _ _
  · -- pc 31
    refine wq_l 32 d31_31 rfl rfl rfl rfl ?_
    refine wq_b 42 35 d31_32 rfl (by decide) rfl (fun c32 => ?_) (fun c32 => ?_)
    · -- pc 42
      have z1 := c28
      have z2 := c32
      simp only [i_lt, i_le, i_eq, ne_eq, Int32.reduceToInt, b2_0, b2_1, decide_eq_true_eq, decide_eq_false_iff_not, Bool.not_eq_true, Bool.not_eq_false, eD, eU] at z1 z2
      have wu := lx_wu (v := V) (u := U.1) (by omega) (by omega)
      refine wq_l 43 d31_42 rfl rfl rfl rfl ?_
      refine wq_a 44 d31_43 rfl rfl ?_
      refine wq_gl (ci := 2) (j := 8) 47 d31_44 rfl rfl rfl rfl ?_
      rw [ls_8]
      refine wq_l 48 d31_47 rfl rfl rfl rfl ?_
      refine wq_a 49 d31_48 rfl rfl ?_
      refine wq_a 50 d31_49 rfl rfl ?_
      rw [nI_l (by omega), lN_mul]
      refine wq_pl (ci := 2) (j := 8) 53 d31_50 rfl rfl rfl rfl rfl ?_
      rw [ls_p8]
      refine wq_l 54 d31_53 rfl rfl rfl rfl ?_
      refine wq_l 55 d31_54 rfl rfl rfl rfl ?_
      refine wq_v 58 [_] d31_55 rfl rfl m37 rfl rfl (Nat.le_of_ble_eq_true rfl) rfl (sp37 hT h5 hc (by omega) wu.1 wu.2.1 wu.2.2 (fun e' a' h => ?_))
      refine wq_ri d31_58 (b2_nar _) ?_
      exact hgd (by omega) e' a' h
    · -- pc 35
      refine wq_l 36 d31_35 rfl rfl rfl rfl ?_
      refine wq_k 37 4 d31_36 (by decide) rfl ?_
      refine wq_l 38 d31_37 rfl rfl rfl rfl ?_
      refine wq_v 41 [_, _] d31_38 rfl rfl m29 rfl rfl (Nat.le_of_ble_eq_true rfl) rfl (sp29 h5 hc ?_)
      refine wq_ri d31_41 (rfl) ?_
      first | exact hbad (by have z := c28; simp only [i_lt, i_le, i_eq, ne_eq, Int32.reduceToInt, b2_0, b2_1, decide_eq_true_eq, decide_eq_false_iff_not, Bool.not_eq_true, Bool.not_eq_false, eD] at z; omega) _ _ | exact hbad (by have z := c32; simp only [i_lt, i_le, i_eq, ne_eq, Int32.reduceToInt, b2_0, b2_1, decide_eq_true_eq, decide_eq_false_iff_not, Bool.not_eq_true, Bool.not_eq_false, eU] at z; omega) _ _
