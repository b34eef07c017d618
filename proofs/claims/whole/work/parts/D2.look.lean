theorem d279_0 : decode prog_14_method_88_code 0 = .ok (.aload_n 0, 1) := by decide +kernel
theorem d279_1 : decode prog_14_method_88_code 1 = .ok (.getfield 22, 3) := by decide +kernel
theorem d279_4 : decode prog_14_method_88_code 4 = .ok (.iload_n 1, 1) := by decide +kernel
theorem d279_5 : decode prog_14_method_88_code 5 = .ok (.laload, 1) := by decide +kernel
theorem d279_6 : decode prog_14_method_88_code 6 = .ok (.invokestatic 558, 3) := by decide +kernel
theorem d279_9 : decode prog_14_method_88_code 9 = .ok (.istore_n 2, 1) := by decide +kernel
theorem d279_10 : decode prog_14_method_88_code 10 = .ok (.aload_n 0, 1) := by decide +kernel
theorem d279_11 : decode prog_14_method_88_code 11 = .ok (.iload_n 1, 1) := by decide +kernel
theorem d279_12 : decode prog_14_method_88_code 12 = .ok (.aload_n 0, 1) := by decide +kernel
theorem d279_13 : decode prog_14_method_88_code 13 = .ok (.getfield 542, 3) := by decide +kernel
theorem d279_16 : decode prog_14_method_88_code 16 = .ok (.iconst 1, 1) := by decide +kernel
theorem d279_17 : decode prog_14_method_88_code 17 = .ok (.isub, 1) := by decide +kernel
theorem d279_18 : decode prog_14_method_88_code 18 = .ok (.invokevirtual 565, 3) := by decide +kernel
theorem d279_21 : decode prog_14_method_88_code 21 = .ok (.istore_n 3, 1) := by decide +kernel
theorem d279_22 : decode prog_14_method_88_code 22 = .ok (.iload_n 2, 1) := by decide +kernel
theorem d279_23 : decode prog_14_method_88_code 23 = .ok (.ifCond .lt 7, 3) := by decide +kernel
theorem d279_26 : decode prog_14_method_88_code 26 = .ok (.iload_n 2, 1) := by decide +kernel
theorem d279_27 : decode prog_14_method_88_code 27 = .ok (.goto 27, 3) := by decide +kernel
theorem d279_30 : decode prog_14_method_88_code 30 = .ok (.iload_n 3, 1) := by decide +kernel
theorem d279_31 : decode prog_14_method_88_code 31 = .ok (.ifCond .lt 22, 3) := by decide +kernel
theorem d279_34 : decode prog_14_method_88_code 34 = .ok (.aload_n 0, 1) := by decide +kernel
theorem d279_35 : decode prog_14_method_88_code 35 = .ok (.getfield 29, 3) := by decide +kernel
theorem d279_38 : decode prog_14_method_88_code 38 = .ok (.aload_n 0, 1) := by decide +kernel
theorem d279_39 : decode prog_14_method_88_code 39 = .ok (.getfield 74, 3) := by decide +kernel
theorem d279_42 : decode prog_14_method_88_code 42 = .ok (.iload_n 3, 1) := by decide +kernel
theorem d279_43 : decode prog_14_method_88_code 43 = .ok (.iaload, 1) := by decide +kernel
theorem d279_44 : decode prog_14_method_88_code 44 = .ok (.iaload, 1) := by decide +kernel
theorem d279_45 : decode prog_14_method_88_code 45 = .ok (.iconst 2, 1) := by decide +kernel
theorem d279_46 : decode prog_14_method_88_code 46 = .ok (.if_icmp .ne 7, 3) := by decide +kernel
theorem d279_49 : decode prog_14_method_88_code 49 = .ok (.iload_n 3, 1) := by decide +kernel
theorem d279_50 : decode prog_14_method_88_code 50 = .ok (.goto 4, 3) := by decide +kernel
theorem d279_53 : decode prog_14_method_88_code 53 = .ok (.iconst (-1), 1) := by decide +kernel
theorem d279_54 : decode prog_14_method_88_code 54 = .ok (.ireturn, 1) := by decide +kernel
theorem m279 : pm_m 279 = some (⟨"TypeRulesModel", "instanceBlock", "(I)I"⟩, prog_14_method_88_code, 4, (some FieldType.int), 10, 1, 11) := rfl
theorem d294_0 : decode prog_14_method_78_code 0 = .ok (.aload_n 0, 1) := by decide +kernel
theorem d294_1 : decode prog_14_method_78_code 1 = .ok (.getfield 95, 3) := by decide +kernel
theorem d294_4 : decode prog_14_method_78_code 4 = .ok (.iload_n 1, 1) := by decide +kernel
theorem d294_5 : decode prog_14_method_78_code 5 = .ok (.iaload, 1) := by decide +kernel
theorem d294_6 : decode prog_14_method_78_code 6 = .ok (.sipush 10000, 3) := by decide +kernel
theorem d294_9 : decode prog_14_method_78_code 9 = .ok (.if_icmp .lt 19, 3) := by decide +kernel
theorem d294_12 : decode prog_14_method_78_code 12 = .ok (.aload_n 0, 1) := by decide +kernel
theorem d294_13 : decode prog_14_method_78_code 13 = .ok (.getfield 95, 3) := by decide +kernel
theorem d294_16 : decode prog_14_method_78_code 16 = .ok (.iload_n 1, 1) := by decide +kernel
theorem d294_17 : decode prog_14_method_78_code 17 = .ok (.iaload, 1) := by decide +kernel
theorem d294_18 : decode prog_14_method_78_code 18 = .ok (.aload_n 0, 1) := by decide +kernel
theorem d294_19 : decode prog_14_method_78_code 19 = .ok (.getfield 22, 3) := by decide +kernel
theorem d294_22 : decode prog_14_method_78_code 22 = .ok (.iload_n 2, 1) := by decide +kernel
theorem d294_23 : decode prog_14_method_78_code 23 = .ok (.laload, 1) := by decide +kernel
theorem d294_24 : decode prog_14_method_78_code 24 = .ok (.invokestatic 548, 3) := by decide +kernel
theorem d294_27 : decode prog_14_method_78_code 27 = .ok (.ireturn, 1) := by decide +kernel
theorem d294_28 : decode prog_14_method_78_code 28 = .ok (.aload_n 0, 1) := by decide +kernel
theorem d294_29 : decode prog_14_method_78_code 29 = .ok (.getfield 95, 3) := by decide +kernel
theorem d294_32 : decode prog_14_method_78_code 32 = .ok (.iload_n 1, 1) := by decide +kernel
theorem d294_33 : decode prog_14_method_78_code 33 = .ok (.iaload, 1) := by decide +kernel
theorem d294_34 : decode prog_14_method_78_code 34 = .ok (.istore_n 3, 1) := by decide +kernel
theorem d294_35 : decode prog_14_method_78_code 35 = .ok (.aload_n 0, 1) := by decide +kernel
theorem d294_36 : decode prog_14_method_78_code 36 = .ok (.iload_n 3, 1) := by decide +kernel
theorem d294_37 : decode prog_14_method_78_code 37 = .ok (.iload_n 2, 1) := by decide +kernel
theorem d294_38 : decode prog_14_method_78_code 38 = .ok (.invokevirtual 545, 3) := by decide +kernel
theorem d294_41 : decode prog_14_method_78_code 41 = .ok (.istore 4, 2) := by decide +kernel
theorem d294_43 : decode prog_14_method_78_code 43 = .ok (.iload 4, 2) := by decide +kernel
theorem d294_45 : decode prog_14_method_78_code 45 = .ok (.ifCond .lt 13, 3) := by decide +kernel
theorem d294_48 : decode prog_14_method_78_code 48 = .ok (.aload_n 0, 1) := by decide +kernel
theorem d294_49 : decode prog_14_method_78_code 49 = .ok (.getfield 98, 3) := by decide +kernel
theorem d294_52 : decode prog_14_method_78_code 52 = .ok (.iload 4, 2) := by decide +kernel
theorem d294_54 : decode prog_14_method_78_code 54 = .ok (.iaload, 1) := by decide +kernel
theorem d294_55 : decode prog_14_method_78_code 55 = .ok (.ifCond .ne 5, 3) := by decide +kernel
theorem d294_58 : decode prog_14_method_78_code 58 = .ok (.iconst (-1), 1) := by decide +kernel
theorem d294_59 : decode prog_14_method_78_code 59 = .ok (.ireturn, 1) := by decide +kernel
theorem d294_60 : decode prog_14_method_78_code 60 = .ok (.aload_n 0, 1) := by decide +kernel
theorem d294_61 : decode prog_14_method_78_code 61 = .ok (.getfield 98, 3) := by decide +kernel
theorem d294_64 : decode prog_14_method_78_code 64 = .ok (.iload 4, 2) := by decide +kernel
theorem d294_66 : decode prog_14_method_78_code 66 = .ok (.iaload, 1) := by decide +kernel
theorem d294_67 : decode prog_14_method_78_code 67 = .ok (.iconst 1, 1) := by decide +kernel
theorem d294_68 : decode prog_14_method_78_code 68 = .ok (.if_icmp .ne 8, 3) := by decide +kernel
theorem d294_71 : decode prog_14_method_78_code 71 = .ok (.bipush 100, 2) := by decide +kernel
theorem d294_73 : decode prog_14_method_78_code 73 = .ok (.goto 4, 3) := by decide +kernel
theorem d294_76 : decode prog_14_method_78_code 76 = .ok (.iconst 0, 1) := by decide +kernel
theorem d294_77 : decode prog_14_method_78_code 77 = .ok (.bipush 10, 2) := by decide +kernel
theorem d294_79 : decode prog_14_method_78_code 79 = .ok (.aload_n 0, 1) := by decide +kernel
theorem d294_80 : decode prog_14_method_78_code 80 = .ok (.getfield 95, 3) := by decide +kernel
theorem d294_83 : decode prog_14_method_78_code 83 = .ok (.iload 4, 2) := by decide +kernel
theorem d294_85 : decode prog_14_method_78_code 85 = .ok (.iaload, 1) := by decide +kernel
theorem d294_86 : decode prog_14_method_78_code 86 = .ok (.imul, 1) := by decide +kernel
theorem d294_87 : decode prog_14_method_78_code 87 = .ok (.iadd, 1) := by decide +kernel
theorem d294_88 : decode prog_14_method_78_code 88 = .ok (.sipush 1000, 3) := by decide +kernel
theorem d294_91 : decode prog_14_method_78_code 91 = .ok (.aload_n 0, 1) := by decide +kernel
theorem d294_92 : decode prog_14_method_78_code 92 = .ok (.getfield 104, 3) := by decide +kernel
theorem d294_95 : decode prog_14_method_78_code 95 = .ok (.iload 4, 2) := by decide +kernel
theorem d294_97 : decode prog_14_method_78_code 97 = .ok (.iaload, 1) := by decide +kernel
theorem d294_98 : decode prog_14_method_78_code 98 = .ok (.imul, 1) := by decide +kernel
theorem d294_99 : decode prog_14_method_78_code 99 = .ok (.iadd, 1) := by decide +kernel
theorem d294_100 : decode prog_14_method_78_code 100 = .ok (.ireturn, 1) := by decide +kernel
theorem m294 : pm_m 294 = some (⟨"TypeRulesModel", "pinOf", "(II)I"⟩, prog_14_method_78_code, 5, (some FieldType.int), 10, 2, 11) := rfl
theorem d296_0 : decode prog_14_method_79_code 0 = .ok (.iload_n 1, 1) := by decide +kernel
theorem d296_1 : decode prog_14_method_79_code 1 = .ok (.sipush 10000, 3) := by decide +kernel
theorem d296_4 : decode prog_14_method_79_code 4 = .ok (.if_icmp .lt 10, 3) := by decide +kernel
theorem d296_7 : decode prog_14_method_79_code 7 = .ok (.iload_n 0, 1) := by decide +kernel
theorem d296_8 : decode prog_14_method_79_code 8 = .ok (.bipush 10, 2) := by decide +kernel
theorem d296_10 : decode prog_14_method_79_code 10 = .ok (.irem, 1) := by decide +kernel
theorem d296_11 : decode prog_14_method_79_code 11 = .ok (.goto 8, 3) := by decide +kernel
theorem d296_14 : decode prog_14_method_79_code 14 = .ok (.iload_n 0, 1) := by decide +kernel
theorem d296_15 : decode prog_14_method_79_code 15 = .ok (.sipush 1000, 3) := by decide +kernel
theorem d296_18 : decode prog_14_method_79_code 18 = .ok (.idiv, 1) := by decide +kernel
theorem d296_19 : decode prog_14_method_79_code 19 = .ok (.ireturn, 1) := by decide +kernel
theorem m296 : pm_m 296 = some (⟨"TypeRulesModel", "cellIn", "(II)I"⟩, prog_14_method_79_code, 2, (some FieldType.int), 10, 2, 0) := rfl
/-! LOOK-UPS of the reference: blocks, inputs, pins -/
theorem rl_owni : ∀ {S : List rl_B} {k : Nat} {y : rl_B} {x : Int32}, pv_B S → rl_blk S k = some y → y.2.1 = x → rl_own S x = some (k, y)
  | [], k, y, x, _, h, _ => by unfold rl_blk at h; simp at h
  | z :: r, k, y, x, hp, h, hx => by
    rw [rl_blkc] at h
    unfold rl_own
    by_cases q : k = r.length
    · rw [if_pos q] at h
      cases h
      rw [if_pos hx, q]
    · rw [if_neg q] at h
      have ih := rl_owni hp.2.2 h hx
      have nz : ¬ z.2.1 = x := fun w => by
        have e := hp.1.2.1
        rw [w] at e
        have sb := (rl_sbo hp.2.2 ih).1
        unfold cb_nm at e
        rw [sb, ih] at e
        cases e
      rw [if_neg nz]; exact ih
theorem rl_ownn : ∀ {S : List rl_B} {x : Int32}, (∀ k y, rl_blk S k = some y → y.2.1 ≠ x) → rl_own S x = none
  | [], x, _ => rfl
  | z :: r, x, h => by
    unfold rl_own
    rw [if_neg (h r.length z (by rw [rl_blkc, if_pos rfl]))]
    exact rl_ownn (fun k y hk => h k y (by have := rl_blkl hk; rw [rl_blkc, if_neg (by omega)]; exact hk))
theorem re270l {d : Nat} {l : List pg_N} {a : Nat → Nat} {R : Int32 → Int32 → Prop} {σ0 σ : pm_S} {fl : Bool} {u : Nat} {A : rl_A} {Q : Option Value → pm_S → Prop} {S : List rl_B} {x r : Int32} (h : rr_I l a R σ0 σ fl u A) (hS : ∀ k y, rl_blk S k = some y → rl_blk A.1 k = some y) (hp : pv_B S) (hR : R x r) (hQ : Q (some (.int (hp_oi ((rl_own S x).map (·.1))))) σ) : ∀ (n k : Nat), k + n = S.length → S.length ≤ 409 → (∀ j y, j < k → rl_blk S j = some y → y.2.1 ≠ x) → pm_WP pm_Y0 (pm_call pm_Y0 (d)) 10 prog_14_method_74_code (some FieldType.int) Q 2 [.ref 10, .int r, .int (nI S.length), .int (nI k)] [] σ := by
  intro n
  induction n with
  | zero =>
    intro k hk hl hno
    rw [rl_ownn (fun j y hj => hno j y (by have := rl_blkl hj; omega) hj)] at hQ
    refine wq_l 3 d270_2 rfl rfl rfl rfl ?_
    refine wq_l 4 d270_3 rfl rfl rfl rfl ?_
    refine wq_b 30 7 d270_4 rfl (by decide) rfl (fun c4 => ?_) (fun c4 => absurd (by rw [show k = S.length by omega, i_le]; omega) c4)
    refine wq_k 31 (-1) d270_30 (by decide) rfl ?_
    refine wq_ri d270_31 (rfl) ?_
    exact hQ
  | succ n ih =>
    intro k hk hl hno
    have ek := nI_toInt (n := k) (by omega)
    have eS := nI_toInt (n := S.length) (by omega)
    have ec := nI_clamp (n := k) (by omega)
    have hkl : k < S.reverse.length := by rw [List.length_reverse]; omega
    have ey : rl_blk S k = some (S.reverse[k]'hkl) := List.getElem?_eq_getElem hkl
    generalize S.reverse[k]'hkl = y at *
    obtain ⟨b1, b2, b3, b4⟩ := h.2.2.2.2.1.2.2 k y (hS k y ey)
    obtain ⟨r', _, hY⟩ := pv_blk hp ey
    have nk : rp_nk (rl_k l y.2.2.1) = true := by
      rw [b2]
      have := hY.1
      have q3 : y.1 = 1 ∨ y.1 = 2 ∨ y.1 = 3 := by omega
      rcases q3 with w | w | w <;> (rw [w]; rfl)
    have yR := rt_R (rr_T h) b1 nk
    rw [b3] at yR
    have vr := (rr_R h).1 _ _ _ _ yR hR
    refine wq_l 3 d270_2 rfl rfl rfl rfl ?_
    refine wq_l 4 d270_3 rfl rfl rfl rfl ?_
    refine wq_b 30 7 d270_4 rfl (by decide) rfl (fun c4 => absurd c4 (by rw [i_le, eS, ek]; omega)) (fun c4 => ?_)
    refine wq_l 8 d270_7 rfl rfl rfl rfl ?_
    refine wq_gr (ci := 10) (j := 18) (q := 51) 11 d270_8 rfl rfl rfl rfl ?_
    refine wq_l 12 d270_11 rfl rfl rfl rfl ?_
    refine wq_gr (ci := 10) (j := 36) (q := 64) 15 d270_12 rfl rfl rfl rfl ?_
    refine wq_l 16 d270_15 rfl rfl rfl rfl ?_
    refine wq_al 17 d270_16 rfl rfl rfl (vp_in_iff.mpr (by rw [ek]; omega)) ?_
    rw [ec, b4.1]
    refine wq_al 18 d270_17 rfl rfl rfl (rt_b (rr_T h) b1) ?_
    rw [rt_m (rr_T h) b1]
    refine wq_l 19 d270_18 rfl rfl rfl rfl ?_
    refine wq_b 24 22 d270_19 rfl (by decide) rfl (fun c19 => ?_) (fun c19 => ?_)
    · -- pc 24
      refine wq_i 27 d270_24 rfl rfl rfl ?_
      refine wq_g 2 d270_27 (by decide) ?_
      rw [show nI k + Int32.ofInt 1 = nI (k + 1) from nI_1 k]
      refine ih (k + 1) (by omega) hl (fun j z hj hz => ?_)
      by_cases q : j = k
      · rw [q, ey] at hz
        cases hz
        exact fun w => c19 (vr.mp w)
      · exact hno j z (by omega) hz
    · -- pc 22
      refine wq_l 23 d270_22 rfl rfl rfl rfl ?_
      refine wq_ri d270_23 (rfl) ?_
      rw [rl_owni hp ey (vr.mpr (Classical.not_not.mp c19))] at hQ
      exact hQ
theorem re270 {d : Nat} {l : List pg_N} {a : Nat → Nat} {R : Int32 → Int32 → Prop} {σ0 σ : pm_S} {fl : Bool} {u : Nat} {A : rl_A} {Q : Option Value → pm_S → Prop} {S : List rl_B} {x r : Int32} (h : rr_I l a R σ0 σ fl u A) (hS : ∀ k y, rl_blk S k = some y → rl_blk A.1 k = some y) (hp : pv_B S) (hl : S.length ≤ 409) (hR : R x r) (hQ : Q (some (.int (hp_oi ((rl_own S x).map (·.1))))) σ) : pm_call pm_Y0 (d + 1) 270 [.ref 10, .int r, .int (nI S.length)] σ Q := by
  refine wq_m m270 (Nat.le_of_ble_eq_true rfl) (by decide) rfl ?_
  refine wq_k 1 0 d270_0 (by decide) rfl ?_
  refine wq_s 2 d270_1 rfl rfl (Nat.le_of_ble_eq_true rfl) rfl rfl ?_
  exact re270l h hS hp hR hQ S.length 0 (by omega) hl (fun j y hj => absurd hj (Nat.not_lt_zero _))
/-- all blocks, and those before the current one -/
theorem re270a {d : Nat} {l : List pg_N} {a : Nat → Nat} {R : Int32 → Int32 → Prop} {σ0 σ : pm_S} {fl : Bool} {u : Nat} {A : rl_A} {Q : Option Value → pm_S → Prop} {x r : Int32} (h : rr_I l a R σ0 σ fl u A) (hp : pv_B A.1) (hR : R x r) (hQ : Q (some (.int (hp_oi ((rl_own A.1 x).map (·.1))))) σ) : pm_call pm_Y0 (d + 1) 270 [.ref 10, .int r, .int (nI A.1.length)] σ Q := re270 h (fun _ _ q => q) hp h.2.2.2.2.1.1 hR hQ
theorem re270t {d : Nat} {l : List pg_N} {a : Nat → Nat} {R : Int32 → Int32 → Prop} {σ0 σ : pm_S} {fl : Bool} {u : Nat} {A : rl_A} {Q : Option Value → pm_S → Prop} {x r : Int32} (h : rr_I l a R σ0 σ fl u A) (hp : pv_B A.1) (hR : R x r) (hQ : Q (some (.int (hp_oi ((rl_own A.1.tail x).map (·.1))))) σ) : pm_call pm_Y0 (d + 1) 270 [.ref 10, .int r, .int (nI (A.1.length - 1))] σ Q := by
  have e : A.1.length - 1 = A.1.tail.length := by rw [List.length_tail]
  rw [e]
  exact re270 h (fun _ _ q => (rl_blkt q).1) (pv_tl hp) (by have := h.2.2.2.2.1.1; rw [List.length_tail]; omega) hR hQ
theorem re276l {d : Nat} {l : List pg_N} {a : Nat → Nat} {R : Int32 → Int32 → Prop} {σ0 σ : pm_S} {fl : Bool} {u : Nat} {A : rl_A} {Q : Option Value → pm_S → Prop} {b : Nat} {y : rl_B} (h : rr_I l a R σ0 σ fl u A) (hb : rl_blk A.1 b = some y) (hv : ∀ v ∈ y.2.2.2.2, v.2.2.2.1 < 2 ^ 20) : ∀ (n j k : Nat), j + n = y.2.2.2.2.length → k ≤ j → Q (some (.int (nI (k + ((y.2.2.2.2.reverse.drop j).filter rl_isin).length)))) σ → pm_WP pm_Y0 (pm_call pm_Y0 (d)) 10 prog_14_method_99_code (some FieldType.int) Q 9 [.ref 10, .int (nI b), .int (nI k), .int (nI (rv_fr A.1 b + j))] [] σ := by
  obtain ⟨g1, g2⟩ := rv_get hb
  have hG := h.2.2.2.2.2.1.1
  have hB9 := h.2.2.2.2.1.1
  have hbl := rl_blkl hb
  have to := (h.2.2.2.2.1.2.2 b y hb).2.2.2.2.2.1
  have eb := nI_toInt (n := b) (by omega)
  have ecb := nI_clamp (n := b) (by omega)
  have eto := nI_toInt (n := rv_fr A.1 b + y.2.2.2.2.length) (by omega)
  intro n
  induction n with
  | zero =>
    intro j k hj hk hQ
    have ej := nI_toInt (n := rv_fr A.1 b + j) (by omega)
    rw [List.drop_eq_nil_of_le (by rw [List.length_reverse]; omega), List.filter_nil, List.length_nil, Nat.add_zero] at hQ
    refine wq_l 10 d276_9 rfl rfl rfl rfl ?_
    refine wq_l 11 d276_10 rfl rfl rfl rfl ?_
    refine wq_gr (ci := 10) (j := 38) (q := 66) 14 d276_11 rfl rfl rfl rfl ?_
    refine wq_l 15 d276_14 rfl rfl rfl rfl ?_
    refine wq_al 16 d276_15 rfl rfl rfl (vp_in_iff.mpr (by rw [eb]; omega)) ?_
    rw [ecb, to]
    refine wq_b 43 19 d276_16 rfl (by decide) rfl (fun c16 => ?_) (fun c16 => absurd (by rw [i_le, eto, ej]; omega) c16)
    refine wq_l 44 d276_43 rfl rfl rfl rfl ?_
    refine wq_ri d276_44 (rfl) ?_
    exact hQ
  | succ n ih =>
    intro j k hj hk hQ
    have ej := nI_toInt (n := rv_fr A.1 b + j) (by omega)
    have ecj := nI_clamp (n := rv_fr A.1 b + j) (by omega)
    have hjl : j < y.2.2.2.2.reverse.length := by rw [List.length_reverse]; omega
    have ev : y.2.2.2.2.reverse[j]? = some (y.2.2.2.2.reverse[j]'hjl) := List.getElem?_eq_getElem hjl
    have eG := g2 j (by omega)
    rw [ev] at eG
    rw [List.drop_eq_getElem_cons hjl] at hQ
    have mem : (y.2.2.2.2.reverse[j]'hjl) ∈ y.2.2.2.2 := List.mem_reverse.mp (List.getElem_mem hjl)
    generalize y.2.2.2.2.reverse[j]'hjl = v at *
    have va := h.2.2.2.2.2.1.2.2 _ v eG
    have vl := hv v mem
    have pt : σ.2.2 72 (rv_fr A.1 b + j) = 1 ↔ rl_isin v = true := by
      unfold rl_isin
      rw [decide_eq_true_eq]
      by_cases s3 : v.2.1 = 3
      · rw [(va.2.2 s3).1]
        exact ⟨fun z => absurd z (by decide), fun z => absurd s3 z.2⟩
      · rw [(va.2.1 s3).2.2.1]
        exact ⟨fun z => ⟨hp_inj (by omega) (by decide) z, s3⟩, fun z => by rw [z.1]; rfl⟩
    refine wq_l 10 d276_9 rfl rfl rfl rfl ?_
    refine wq_l 11 d276_10 rfl rfl rfl rfl ?_
    refine wq_gr (ci := 10) (j := 38) (q := 66) 14 d276_11 rfl rfl rfl rfl ?_
    refine wq_l 15 d276_14 rfl rfl rfl rfl ?_
    refine wq_al 16 d276_15 rfl rfl rfl (vp_in_iff.mpr (by rw [eb]; omega)) ?_
    rw [ecb, to]
    refine wq_b 43 19 d276_16 rfl (by decide) rfl (fun c16 => absurd c16 (by rw [i_le, eto, ej]; omega)) (fun c16 => ?_)
    refine wq_l 20 d276_19 rfl rfl rfl rfl ?_
    refine wq_l 21 d276_20 rfl rfl rfl rfl ?_
    refine wq_gr (ci := 10) (j := 45) (q := 72) 24 d276_21 rfl rfl rfl rfl ?_
    refine wq_l 25 d276_24 rfl rfl rfl rfl ?_
    refine wq_al 26 d276_25 rfl rfl rfl (vp_in_iff.mpr (by rw [ej]; omega)) ?_
    rw [ecj]
    refine wq_k 27 1 d276_26 (by decide) rfl ?_
    refine wq_b 34 30 d276_27 rfl (by decide) rfl (fun c27 => ?_) (fun c27 => ?_)
    · -- pc 34
      refine wq_k 35 0 d276_34 (by decide) rfl ?_
      refine wq_a 36 d276_35 rfl rfl ?_
      refine wq_s 37 d276_36 rfl rfl (Nat.le_of_ble_eq_true rfl) rfl rfl ?_
      refine wq_i 40 d276_37 rfl rfl rfl ?_
      refine wq_g 9 d276_40 (by decide) ?_
      rw [show nI (rv_fr A.1 b + j) + Int32.ofInt 1 = nI (rv_fr A.1 b + (j + 1)) from nI_1 _]
      rw [List.filter_cons_of_neg (fun z => c27 (pt.mpr z))] at hQ
      rw [show nI k + 0 = nI k from Int32.add_zero _]
      exact ih (j + 1) k (by omega) (by omega) hQ
    · -- pc 30
      refine wq_k 31 1 d276_30 (by decide) rfl ?_
      refine wq_g 35 d276_31 (by decide) ?_
      refine wq_a 36 d276_35 rfl rfl ?_
      refine wq_s 37 d276_36 rfl rfl (Nat.le_of_ble_eq_true rfl) rfl rfl ?_
      refine wq_i 40 d276_37 rfl rfl rfl ?_
      refine wq_g 9 d276_40 (by decide) ?_
      rw [show nI (rv_fr A.1 b + j) + Int32.ofInt 1 = nI (rv_fr A.1 b + (j + 1)) from nI_1 _]
      rw [List.filter_cons_of_pos (pt.mp (Classical.not_not.mp c27)), List.length_cons, show k + (((y.2.2.2.2.reverse.drop (j + 1)).filter rl_isin).length + 1) = (k + 1) + ((y.2.2.2.2.reverse.drop (j + 1)).filter rl_isin).length by omega] at hQ
      rw [nI_1]
      exact ih (j + 1) (k + 1) (by omega) (by omega) hQ
theorem re276 {d : Nat} {l : List pg_N} {a : Nat → Nat} {R : Int32 → Int32 → Prop} {σ0 σ : pm_S} {fl : Bool} {u : Nat} {A : rl_A} {Q : Option Value → pm_S → Prop} {b : Nat} {y : rl_B} (h : rr_I l a R σ0 σ fl u A) (hb : rl_blk A.1 b = some y) (hv : ∀ v ∈ y.2.2.2.2, v.2.2.2.1 < 2 ^ 20) (hQ : Q (some (.int (nI (rl_nin y)))) σ) : pm_call pm_Y0 (d + 1) 276 [.ref 10, .int (nI b)] σ Q := by
  have hB9 := h.2.2.2.2.1.1
  have hbl := rl_blkl hb
  have fr := ((h.2.2.2.2.1.2.2) b y hb).2.2.2.2.1
  have eb := nI_toInt (n := b) (by omega)
  have ecb := nI_clamp (n := b) (by omega)
  refine wq_m m276 (Nat.le_of_ble_eq_true rfl) (by decide) rfl ?_
  refine wq_k 1 0 d276_0 (by decide) rfl ?_
  refine wq_s 2 d276_1 rfl rfl (Nat.le_of_ble_eq_true rfl) rfl rfl ?_
  refine wq_l 3 d276_2 rfl rfl rfl rfl ?_
  refine wq_gr (ci := 10) (j := 37) (q := 65) 6 d276_3 rfl rfl rfl rfl ?_
  refine wq_l 7 d276_6 rfl rfl rfl rfl ?_
  refine wq_al 8 d276_7 rfl rfl rfl (vp_in_iff.mpr (by rw [eb]; omega)) ?_
  rw [ecb, fr]
  refine wq_s 9 d276_8 rfl rfl (Nat.le_of_ble_eq_true rfl) rfl rfl ?_
  refine re276l h hb hv y.2.2.2.2.length 0 0 (by omega) (Nat.le_refl _) ?_
  rw [Nat.zero_add, List.drop_zero, List.filter_reverse, List.length_reverse]
  exact hQ
theorem re279 {d : Nat} {l : List pg_N} {a : Nat → Nat} {R : Int32 → Int32 → Prop} {σ0 σ : pm_S} {fl : Bool} {u : Nat} {A : rl_A} {Q : Option Value → pm_S → Prop} {x r : Int32} (h : rr_I l a R σ0 σ fl u A) (hp : pv_B A.1) (hB : A.1 ≠ []) (hR : R x r) (hQ : Q (some (.int (match rl_inst A.1 x with | some q => rv_q q | none => -1))) σ) : pm_call pm_Y0 (d + 2) 279 [.ref 10, .int r] σ Q := by
  have hl := rl_len hB
  have e35 := h.2.2.2.2.1.2.1
  have hB9 := h.2.2.2.2.1.1
  have es : nI A.1.length - 1 = nI (A.1.length - 1) := nI_sbl (b := 1) (by omega)
  obtain ⟨r1, r2, r3, r4⟩ := (rr_R h).2 x r hR
  have cx := cl_i x r1
  have nx := cl_i r r2
  have b68 : ∀ k : Nat, k < 2 ^ 20 → (0 : Int32) ≤ nI k := fun k hk => by rw [i_le, nI_toInt (by omega)]; show (0 : Int) ≤ _; omega
  unfold rl_inst at hQ
  by_cases hs : 41 ≤ x.toNatClampNeg ∧ x.toNatClampNeg < 50
  · have esb : rl_sb x = some (x.toNatClampNeg - 41) := by unfold rl_sb; rw [if_pos (by omega)]
    rw [esb] at hQ
    have eq : rv_q (x.toNatClampNeg - 41) = nI (x.toNatClampNeg + 10059) := by unfold rv_q; rw [if_pos (by omega)]; congr 1; omega
    have hQ : Q (some (.int (rv_q (x.toNatClampNeg - 41)))) σ := hQ
    rw [eq] at hQ
    refine wq_m m279 (Nat.le_of_ble_eq_true rfl) (by decide) rfl ?_
    refine wq_l 1 d279_0 rfl rfl rfl rfl ?_
    refine wq_gr (ci := 10) (j := 13) (q := 47) 4 d279_1 rfl rfl rfl rfl ?_
    refine wq_l 5 d279_4 rfl rfl rfl rfl ?_
    refine wq_ll 6 d279_5 rfl rfl (vp_in_iff.mpr ⟨r2, r3⟩) ?_
    refine wq_vs 9 [_] d279_6 rfl rfl m268 rfl (Nat.le_of_ble_eq_true rfl) rfl (sp268 (v := x.toNatClampNeg) r4 ?_)
    rw [if_pos hs]
    refine wq_s 10 d279_9 rfl rfl (Nat.le_of_ble_eq_true rfl) rfl rfl ?_
    refine wq_l 11 d279_10 rfl rfl rfl rfl ?_
    refine wq_l 12 d279_11 rfl rfl rfl rfl ?_
    refine wq_l 13 d279_12 rfl rfl rfl rfl ?_
    refine wq_gf (ci := 10) (j := 35) (f := 0) (v := .int (nI A.1.length)) 16 d279_13 rfl rfl rfl (congrArg Value.int (e35)) rfl ?_
    refine wq_k 17 1 d279_16 (by decide) rfl ?_
    refine wq_a 18 d279_17 rfl rfl ?_
    rw [es]
    refine wq_v 21 [_, _] d279_18 rfl rfl m270 rfl rfl (Nat.le_of_ble_eq_true rfl) rfl (re270t h hp hR ?_)
    refine wq_s 22 d279_21 rfl rfl (Nat.le_of_ble_eq_true rfl) rfl rfl ?_
    refine wq_l 23 d279_22 rfl rfl rfl rfl ?_
    refine wq_b 30 26 d279_23 rfl (by decide) rfl (fun c23 => absurd c23 (Int32.not_lt.mpr (b68 _ (by omega)))) (fun c23 => ?_)
    refine wq_l 27 d279_26 rfl rfl rfl rfl ?_
    refine wq_g 54 d279_27 (by decide) ?_
    refine wq_ri d279_54 (rfl) ?_
    exact hQ
  · have esb : rl_sb x = none := by unfold rl_sb; rw [if_neg (by omega)]
    rw [esb] at hQ
    dsimp only at hQ
    cases ho : rl_own A.1.tail x with
    | none =>
      rw [ho] at hQ
      refine wq_m m279 (Nat.le_of_ble_eq_true rfl) (by decide) rfl ?_
      refine wq_l 1 d279_0 rfl rfl rfl rfl ?_
      refine wq_gr (ci := 10) (j := 13) (q := 47) 4 d279_1 rfl rfl rfl rfl ?_
      refine wq_l 5 d279_4 rfl rfl rfl rfl ?_
      refine wq_ll 6 d279_5 rfl rfl (vp_in_iff.mpr ⟨r2, r3⟩) ?_
      refine wq_vs 9 [_] d279_6 rfl rfl m268 rfl (Nat.le_of_ble_eq_true rfl) rfl (sp268 (v := x.toNatClampNeg) r4 ?_)
      rw [if_neg hs]
      refine wq_s 10 d279_9 rfl rfl (Nat.le_of_ble_eq_true rfl) rfl rfl ?_
      refine wq_l 11 d279_10 rfl rfl rfl rfl ?_
      refine wq_l 12 d279_11 rfl rfl rfl rfl ?_
      refine wq_l 13 d279_12 rfl rfl rfl rfl ?_
      refine wq_gf (ci := 10) (j := 35) (f := 0) (v := .int (nI A.1.length)) 16 d279_13 rfl rfl rfl (congrArg Value.int (e35)) rfl ?_
      refine wq_k 17 1 d279_16 (by decide) rfl ?_
      refine wq_a 18 d279_17 rfl rfl ?_
      rw [es]
      refine wq_v 21 [_, _] d279_18 rfl rfl m270 rfl rfl (Nat.le_of_ble_eq_true rfl) rfl (re270t h hp hR ?_)
      rw [ho]
      refine wq_s 22 d279_21 rfl rfl (Nat.le_of_ble_eq_true rfl) rfl rfl ?_
      refine wq_l 23 d279_22 rfl rfl rfl rfl ?_
      refine wq_b 30 26 d279_23 rfl (by decide) rfl (fun c23 => ?_) (fun c23 => absurd (by decide) c23)
      refine wq_l 31 d279_30 rfl rfl rfl rfl ?_
      refine wq_b 53 34 d279_31 rfl (by decide) rfl (fun c31 => ?_) (fun c31 => absurd (by decide) c31)
      refine wq_k 54 (-1) d279_53 (by decide) rfl ?_
      refine wq_ri d279_54 (rfl) ?_
      exact hQ
    | some w =>
      obtain ⟨b, y⟩ := w
      rw [ho] at hQ
      dsimp only at hQ
      obtain ⟨y1, y2⟩ := rl_ownb ho
      obtain ⟨y3, y4⟩ := rl_blkt y1
      obtain ⟨b1, b2, b3, b4⟩ := h.2.2.2.2.1.2.2 b y y3
      have eb := nI_toInt (n := b) (by omega)
      have ecb := nI_clamp (n := b) (by omega)
      have kk := rt_k (rr_T h) b1
      rw [b2] at kk
      obtain ⟨r', _, hY⟩ := pv_blk hp y3
      have hY1 := hY.1
      refine wq_m m279 (Nat.le_of_ble_eq_true rfl) (by decide) rfl ?_
      refine wq_l 1 d279_0 rfl rfl rfl rfl ?_
      refine wq_gr (ci := 10) (j := 13) (q := 47) 4 d279_1 rfl rfl rfl rfl ?_
      refine wq_l 5 d279_4 rfl rfl rfl rfl ?_
      refine wq_ll 6 d279_5 rfl rfl (vp_in_iff.mpr ⟨r2, r3⟩) ?_
      refine wq_vs 9 [_] d279_6 rfl rfl m268 rfl (Nat.le_of_ble_eq_true rfl) rfl (sp268 (v := x.toNatClampNeg) r4 ?_)
      rw [if_neg hs]
      refine wq_s 10 d279_9 rfl rfl (Nat.le_of_ble_eq_true rfl) rfl rfl ?_
      refine wq_l 11 d279_10 rfl rfl rfl rfl ?_
      refine wq_l 12 d279_11 rfl rfl rfl rfl ?_
      refine wq_l 13 d279_12 rfl rfl rfl rfl ?_
      refine wq_gf (ci := 10) (j := 35) (f := 0) (v := .int (nI A.1.length)) 16 d279_13 rfl rfl rfl (congrArg Value.int (e35)) rfl ?_
      refine wq_k 17 1 d279_16 (by decide) rfl ?_
      refine wq_a 18 d279_17 rfl rfl ?_
      rw [es]
      refine wq_v 21 [_, _] d279_18 rfl rfl m270 rfl rfl (Nat.le_of_ble_eq_true rfl) rfl (re270t h hp hR ?_)
      rw [ho]
      rw [show hp_oi (Option.map (fun x => x.1) (some (b, y))) = nI b from rfl]
      refine wq_s 22 d279_21 rfl rfl (Nat.le_of_ble_eq_true rfl) rfl rfl ?_
      refine wq_l 23 d279_22 rfl rfl rfl rfl ?_
      refine wq_b 30 26 d279_23 rfl (by decide) rfl (fun c23 => ?_) (fun c23 => absurd (by decide) c23)
      refine wq_l 31 d279_30 rfl rfl rfl rfl ?_
      refine wq_b 53 34 d279_31 rfl (by decide) rfl (fun c31 => absurd c31 (by rw [i_lt, eb]; show ¬ (b : Int) < 0; omega)) (fun c31 => ?_)
      refine wq_l 35 d279_34 rfl rfl rfl rfl ?_
      refine wq_gr (ci := 10) (j := 16) (q := 49) 38 d279_35 rfl rfl rfl rfl ?_
      refine wq_l 39 d279_38 rfl rfl rfl rfl ?_
      refine wq_gr (ci := 10) (j := 36) (q := 64) 42 d279_39 rfl rfl rfl rfl ?_
      refine wq_l 43 d279_42 rfl rfl rfl rfl ?_
      refine wq_al 44 d279_43 rfl rfl rfl (vp_in_iff.mpr (by rw [eb]; omega)) ?_
      rw [ecb, b4.1]
      refine wq_al 45 d279_44 rfl rfl rfl (rt_b (rr_T h) b1) ?_
      rw [kk]
      refine wq_k 46 2 d279_45 (by decide) rfl ?_
      refine wq_b 53 49 d279_46 rfl (by decide) rfl (fun c46 => ?_) (fun c46 => ?_)
      · -- pc 53
        refine wq_k 54 (-1) d279_53 (by decide) rfl ?_
        refine wq_ri d279_54 (rfl) ?_
        rw [if_neg (fun z => c46 (by rw [z]; rfl))] at hQ
        exact hQ
      · -- pc 49
        refine wq_l 50 d279_49 rfl rfl rfl rfl ?_
        refine wq_g 54 d279_50 (by decide) ?_
        refine wq_ri d279_54 (rfl) ?_
        rw [if_pos (show y.1 = 2 from hp_inj (by omega) (by decide) (Classical.not_not.mp c46))] at hQ
        have eq : rv_q (9 + b) = nI b := by unfold rv_q; rw [if_neg (by omega)]; congr 1; omega
        have hQ : Q (some (.int (rv_q (9 + b)))) σ := hQ
        rw [eq] at hQ
        exact hQ
