theorem d333_0 : decode prog_18_method_23_code 0 = .ok (.iload_n 1, 1) := by decide +kernel
theorem d333_1 : decode prog_18_method_23_code 1 = .ok (.i2b, 1) := by decide +kernel
theorem d333_2 : decode prog_18_method_23_code 2 = .ok (.istore 4, 2) := by decide +kernel
theorem d333_4 : decode prog_18_method_23_code 4 = .ok (.iload_n 2, 1) := by decide +kernel
theorem d333_5 : decode prog_18_method_23_code 5 = .ok (.istore 5, 2) := by decide +kernel
theorem d333_7 : decode prog_18_method_23_code 7 = .ok (.iload 5, 2) := by decide +kernel
theorem d333_9 : decode prog_18_method_23_code 9 = .ok (.iload_n 3, 1) := by decide +kernel
theorem d333_10 : decode prog_18_method_23_code 10 = .ok (.if_icmp .ge 21, 3) := by decide +kernel
theorem d333_13 : decode prog_18_method_23_code 13 = .ok (.aload_n 0, 1) := by decide +kernel
theorem d333_14 : decode prog_18_method_23_code 14 = .ok (.iload 5, 2) := by decide +kernel
theorem d333_16 : decode prog_18_method_23_code 16 = .ok (.baload, 1) := by decide +kernel
theorem d333_17 : decode prog_18_method_23_code 17 = .ok (.iload 4, 2) := by decide +kernel
theorem d333_19 : decode prog_18_method_23_code 19 = .ok (.if_icmp .ne 6, 3) := by decide +kernel
theorem d333_22 : decode prog_18_method_23_code 22 = .ok (.iload 5, 2) := by decide +kernel
theorem d333_24 : decode prog_18_method_23_code 24 = .ok (.ireturn, 1) := by decide +kernel
theorem d333_25 : decode prog_18_method_23_code 25 = .ok (.iinc 5 1, 3) := by decide +kernel
theorem d333_28 : decode prog_18_method_23_code 28 = .ok (.goto (-21), 3) := by decide +kernel
theorem d333_31 : decode prog_18_method_23_code 31 = .ok (.iconst (-1), 1) := by decide +kernel
theorem d333_32 : decode prog_18_method_23_code 32 = .ok (.ireturn, 1) := by decide +kernel
theorem m333 : pm_m 333 = some (⟨"java/lang/StringLatin1", "indexOfChar", "([BIII)I"⟩, prog_18_method_23_code, 6, (some FieldType.int), 14, 4, 0) := rfl
theorem d332_0 : decode prog_18_method_4_code 0 = .ok (.iload_n 0, 1) := by decide +kernel
theorem d332_1 : decode prog_18_method_4_code 1 = .ok (.ifCond .lt 14, 3) := by decide +kernel
theorem d332_4 : decode prog_18_method_4_code 4 = .ok (.iload_n 0, 1) := by decide +kernel
theorem d332_5 : decode prog_18_method_4_code 5 = .ok (.sipush 255, 3) := by decide +kernel
theorem d332_8 : decode prog_18_method_4_code 8 = .ok (.if_icmp .gt 7, 3) := by decide +kernel
theorem d332_11 : decode prog_18_method_4_code 11 = .ok (.iconst 1, 1) := by decide +kernel
theorem d332_12 : decode prog_18_method_4_code 12 = .ok (.goto 4, 3) := by decide +kernel
theorem d332_15 : decode prog_18_method_4_code 15 = .ok (.iconst 0, 1) := by decide +kernel
theorem d332_16 : decode prog_18_method_4_code 16 = .ok (.ireturn, 1) := by decide +kernel
theorem m332 : pm_m 332 = some (⟨"java/lang/StringLatin1", "canEncode", "(I)Z"⟩, prog_18_method_4_code, 1, (some FieldType.boolean), 14, 1, 0) := rfl
theorem d331_0 : decode prog_18_method_22_code 0 = .ok (.iload_n 1, 1) := by decide +kernel
theorem d331_1 : decode prog_18_method_22_code 1 = .ok (.invokestatic 88, 3) := by decide +kernel
theorem d331_4 : decode prog_18_method_22_code 4 = .ok (.ifCond .ne 5, 3) := by decide +kernel
theorem d331_7 : decode prog_18_method_22_code 7 = .ok (.iconst (-1), 1) := by decide +kernel
theorem d331_8 : decode prog_18_method_22_code 8 = .ok (.ireturn, 1) := by decide +kernel
theorem d331_9 : decode prog_18_method_22_code 9 = .ok (.iload_n 2, 1) := by decide +kernel
theorem d331_10 : decode prog_18_method_22_code 10 = .ok (.iconst 0, 1) := by decide +kernel
theorem d331_11 : decode prog_18_method_22_code 11 = .ok (.invokestatic 92, 3) := by decide +kernel
theorem d331_14 : decode prog_18_method_22_code 14 = .ok (.istore_n 2, 1) := by decide +kernel
theorem d331_15 : decode prog_18_method_22_code 15 = .ok (.iload_n 3, 1) := by decide +kernel
theorem d331_16 : decode prog_18_method_22_code 16 = .ok (.aload_n 0, 1) := by decide +kernel
theorem d331_17 : decode prog_18_method_22_code 17 = .ok (.arraylength, 1) := by decide +kernel
theorem d331_18 : decode prog_18_method_22_code 18 = .ok (.invokestatic 38, 3) := by decide +kernel
theorem d331_21 : decode prog_18_method_22_code 21 = .ok (.istore_n 3, 1) := by decide +kernel
theorem d331_22 : decode prog_18_method_22_code 22 = .ok (.iload_n 2, 1) := by decide +kernel
theorem d331_23 : decode prog_18_method_22_code 23 = .ok (.iload_n 3, 1) := by decide +kernel
theorem d331_24 : decode prog_18_method_22_code 24 = .ok (.if_icmp .lt 5, 3) := by decide +kernel
theorem d331_27 : decode prog_18_method_22_code 27 = .ok (.iconst (-1), 1) := by decide +kernel
theorem d331_28 : decode prog_18_method_22_code 28 = .ok (.ireturn, 1) := by decide +kernel
theorem d331_29 : decode prog_18_method_22_code 29 = .ok (.aload_n 0, 1) := by decide +kernel
theorem d331_30 : decode prog_18_method_22_code 30 = .ok (.iload_n 1, 1) := by decide +kernel
theorem d331_31 : decode prog_18_method_22_code 31 = .ok (.iload_n 2, 1) := by decide +kernel
theorem d331_32 : decode prog_18_method_22_code 32 = .ok (.iload_n 3, 1) := by decide +kernel
theorem d331_33 : decode prog_18_method_22_code 33 = .ok (.invokestatic 95, 3) := by decide +kernel
theorem d331_36 : decode prog_18_method_22_code 36 = .ok (.ireturn, 1) := by decide +kernel
theorem m331 : pm_m 331 = some (⟨"java/lang/StringLatin1", "indexOf", "([BIII)I"⟩, prog_18_method_22_code, 4, (some FieldType.int), 14, 4, 0) := rfl
theorem d328_0 : decode prog_17_method_152_code 0 = .ok (.getstatic 38, 3) := by decide +kernel
theorem d328_3 : decode prog_17_method_152_code 3 = .ok (.ifCond .eq 10, 3) := by decide +kernel
theorem d328_6 : decode prog_17_method_152_code 6 = .ok (.aload_n 0, 1) := by decide +kernel
theorem d328_7 : decode prog_17_method_152_code 7 = .ok (.getfield 15, 3) := by decide +kernel
theorem d328_10 : decode prog_17_method_152_code 10 = .ok (.goto 4, 3) := by decide +kernel
theorem d328_13 : decode prog_17_method_152_code 13 = .ok (.iconst 1, 1) := by decide +kernel
theorem d328_14 : decode prog_17_method_152_code 14 = .ok (.ireturn, 1) := by decide +kernel
theorem m328 : pm_m 328 = some (⟨"java/lang/String", "coder", "()B"⟩, prog_17_method_152_code, 1, (some FieldType.byte), 13, 0, 14) := rfl
theorem d327_0 : decode prog_17_method_54_code 0 = .ok (.aload_n 0, 1) := by decide +kernel
theorem d327_1 : decode prog_17_method_54_code 1 = .ok (.getfield 9, 3) := by decide +kernel
theorem d327_4 : decode prog_17_method_54_code 4 = .ok (.arraylength, 1) := by decide +kernel
theorem d327_5 : decode prog_17_method_54_code 5 = .ok (.aload_n 0, 1) := by decide +kernel
theorem d327_6 : decode prog_17_method_54_code 6 = .ok (.invokevirtual 335, 3) := by decide +kernel
theorem d327_9 : decode prog_17_method_54_code 9 = .ok (.ishr, 1) := by decide +kernel
theorem d327_10 : decode prog_17_method_54_code 10 = .ok (.ireturn, 1) := by decide +kernel
theorem m327 : pm_m 327 = some (⟨"java/lang/String", "length", "()I"⟩, prog_17_method_54_code, 1, (some FieldType.int), 13, 0, 14) := rfl
theorem d326_0 : decode prog_17_method_80_code 0 = .ok (.aload_n 0, 1) := by decide +kernel
theorem d326_1 : decode prog_17_method_80_code 1 = .ok (.invokevirtual 492, 3) := by decide +kernel
theorem d326_4 : decode prog_17_method_80_code 4 = .ok (.ifCond .eq 19, 3) := by decide +kernel
theorem d326_7 : decode prog_17_method_80_code 7 = .ok (.aload_n 0, 1) := by decide +kernel
theorem d326_8 : decode prog_17_method_80_code 8 = .ok (.getfield 9, 3) := by decide +kernel
theorem d326_11 : decode prog_17_method_80_code 11 = .ok (.iload_n 1, 1) := by decide +kernel
theorem d326_12 : decode prog_17_method_80_code 12 = .ok (.iload_n 2, 1) := by decide +kernel
theorem d326_13 : decode prog_17_method_80_code 13 = .ok (.aload_n 0, 1) := by decide +kernel
theorem d326_14 : decode prog_17_method_80_code 14 = .ok (.invokevirtual 505, 3) := by decide +kernel
theorem d326_17 : decode prog_17_method_80_code 17 = .ok (.invokestatic 637, 3) := by decide +kernel
theorem d326_20 : decode prog_17_method_80_code 20 = .ok (.goto 16, 3) := by decide +kernel
theorem d326_23 : decode prog_17_method_80_code 23 = .ok (.aload_n 0, 1) := by decide +kernel
theorem d326_24 : decode prog_17_method_80_code 24 = .ok (.getfield 9, 3) := by decide +kernel
theorem d326_27 : decode prog_17_method_80_code 27 = .ok (.iload_n 1, 1) := by decide +kernel
theorem d326_28 : decode prog_17_method_80_code 28 = .ok (.iload_n 2, 1) := by decide +kernel
theorem d326_29 : decode prog_17_method_80_code 29 = .ok (.aload_n 0, 1) := by decide +kernel
theorem d326_30 : decode prog_17_method_80_code 30 = .ok (.invokevirtual 505, 3) := by decide +kernel
theorem d326_33 : decode prog_17_method_80_code 33 = .ok (.invokestatic 640, 3) := by decide +kernel
theorem d326_36 : decode prog_17_method_80_code 36 = .ok (.ireturn, 1) := by decide +kernel
theorem m326 : pm_m 326 = some (⟨"java/lang/String", "indexOf", "(II)I"⟩, prog_17_method_80_code, 3, (some FieldType.int), 13, 2, 14) := rfl
theorem d325_0 : decode prog_17_method_79_code 0 = .ok (.aload_n 0, 1) := by decide +kernel
theorem d325_1 : decode prog_17_method_79_code 1 = .ok (.iload_n 1, 1) := by decide +kernel
theorem d325_2 : decode prog_17_method_79_code 2 = .ok (.iconst 0, 1) := by decide +kernel
theorem d325_3 : decode prog_17_method_79_code 3 = .ok (.invokevirtual 633, 3) := by decide +kernel
theorem d325_6 : decode prog_17_method_79_code 6 = .ok (.ireturn, 1) := by decide +kernel
theorem m325 : pm_m 325 = some (⟨"java/lang/String", "indexOf", "(I)I"⟩, prog_17_method_79_code, 2, (some FieldType.int), 13, 1, 14) := rfl
/-! SIGNS: String.indexOf of the list of signs -/
def lx_six (c : Nat) : Int32 := if c ∈ lx_sgs then nI (lx_sgs.idxOf c) else -1
theorem lx_six_m : ∀ c, c < 256 → ∀ i, i < 17 → ((nI c).toInt8.toInt32 = pm_sbt 8 i ↔ lx_sgs.getD i 0 = c) := by decide +kernel
theorem lx_six_i : ∀ i, i < 17 → lx_six (lx_sgs.getD i 0) = nI i := by decide +kernel
theorem lx_six_n {c : Nat} (h : ∀ i, i < 17 → lx_sgs.getD i 0 ≠ c) : lx_six c = -1 := by
  unfold lx_six
  rw [if_neg]
  intro hm
  obtain ⟨i, hi, he⟩ := List.getElem_of_mem hm
  have : i < 17 := hi
  exact h i this (by rw [List.getD_eq_getElem?_getD, List.getElem?_eq_getElem hi]; exact he)
theorem sb8 : pm_sln 8 = 17 := rfl
theorem lx_ixl {Y : pm_Y} {d : Nat} {σ : pm_S} {Q : Option Value → pm_S → Prop} {c : Nat} (hc : c < 256) (hQ : Q (some (.int (lx_six c))) σ) : ∀ (n i : Nat), i + n = 17 → (∀ k, k < i → lx_sgs.getD k 0 ≠ c) → pm_WP Y (pm_call Y (d)) 14 prog_18_method_23_code (some FieldType.int) Q 7 [.ref (1200 + 8), .int (nI c), .int 0, .int (nI 17), .int (nI c).toInt8.toInt32, .int (nI i)] [] σ := by
  intro n
  induction n with
  | zero =>
    intro i hi hk
    rw [lx_six_n (fun k hk' => hk k (by omega))] at hQ
    have ei := nI_toInt (n := i) (by omega)
    have e17 := nI_toInt (n := 17) (by omega)
    refine wq_l 9 d333_7 rfl rfl rfl rfl ?_
    refine wq_l 10 d333_9 rfl rfl rfl rfl ?_
    refine wq_b 31 13 d333_10 rfl (by decide) rfl (fun c10 => ?_) (fun c10 => absurd ((by simp only [i_lt, i_le, i_eq, ne_eq, Int32.reduceToInt, b2_0, b2_1, decide_eq_true_eq, decide_eq_false_iff_not, Bool.not_eq_true, Bool.not_eq_false] at * <;> omega)) c10)
    refine wq_k 32 (-1) d333_31 (by decide) rfl ?_
    refine wq_ri d333_32 (rfl) ?_
    exact hQ
  | succ n ih =>
    intro i hi hk
    have ei := nI_toInt (n := i) (by omega)
    have e17 := nI_toInt (n := 17) (by omega)
    have em := lx_six_m c hc i (by omega)
    refine wq_l 9 d333_7 rfl rfl rfl rfl ?_
    refine wq_l 10 d333_9 rfl rfl rfl rfl ?_
    refine wq_b 31 13 d333_10 rfl (by decide) rfl (fun c10 => absurd c10 ((by simp only [i_lt, i_le, i_eq, ne_eq, Int32.reduceToInt, b2_0, b2_1, decide_eq_true_eq, decide_eq_false_iff_not, Bool.not_eq_true, Bool.not_eq_false] at * <;> omega))) (fun c10 => ?_)
    refine wq_l 14 d333_13 rfl rfl rfl rfl ?_
    refine wq_l 16 d333_14 rfl rfl rfl rfl ?_
    refine wq_kb 17 d333_16 (by decide) rfl (vp_in_iff.mpr (by simp only [i_lt, i_le, i_eq, ne_eq, Int32.reduceToInt, b2_0, b2_1, decide_eq_true_eq, decide_eq_false_iff_not, Bool.not_eq_true, Bool.not_eq_false, sb8] at * <;> omega)) ?_
    rw [nI_clamp (by omega)]
    refine wq_l 19 d333_17 rfl rfl rfl rfl ?_
    refine wq_b 25 22 d333_19 rfl (by decide) rfl (fun c19 => ?_) (fun c19 => ?_)
    · -- pc 25
      refine wq_i 28 d333_25 rfl rfl rfl ?_
      rw [show nI i + Int32.ofInt 1 = nI (i + 1) from (nI_succ i).symm]
      refine wq_g 7 d333_28 (by decide) ?_
      refine ih (i + 1) (by omega) (fun k hk' => ?_)
      rcases Nat.lt_or_ge k i with q | q
      · exact hk k q
      · rw [show k = i by omega]; exact fun z => absurd (em.mpr z).symm c19
    · -- pc 22
      refine wq_l 24 d333_22 rfl rfl rfl rfl ?_
      refine wq_ri d333_24 (rfl) ?_
      have hm := em.mp (Eq.symm (by first | exact c19 | exact Classical.not_not.mp c19))
      rw [← hm, lx_six_i i (by omega)] at hQ
      exact hQ
theorem sp333 {Y : pm_Y} {d : Nat} {σ : pm_S} {Q : Option Value → pm_S → Prop} {c : Nat} (hc : c < 256) (hQ : Q (some (.int (lx_six c))) σ) : pm_call Y (d + 1) 333 [.ref (1200 + 8), .int (nI c), .int 0, .int (nI 17)] σ Q := by
  refine wq_m m333 (Nat.le_of_ble_eq_true rfl) (by decide) rfl ?_
  refine wq_l 1 d333_0 rfl rfl rfl rfl ?_
  refine wq_a 2 d333_1 rfl rfl ?_
  refine wq_s 4 d333_2 rfl rfl (Nat.le_of_ble_eq_true rfl) rfl rfl ?_
  refine wq_l 5 d333_4 rfl rfl rfl rfl ?_
  refine wq_s 7 d333_5 rfl rfl (Nat.le_of_ble_eq_true rfl) rfl rfl ?_
  exact lx_ixl hc hQ 17 0 rfl (fun k hk => absurd hk (by omega))
theorem sp332 {Y : pm_Y} {d : Nat} {σ : pm_S} {Q : Option Value → pm_S → Prop} {c : Nat} (hc : c < 256) (hQ : Q (some (.int 1)) σ) : pm_call Y (d + 1) 332 [.int (nI c)] σ Q := by
  have ec := nI_toInt (n := c) (by omega)
  refine wq_m m332 (Nat.le_of_ble_eq_true rfl) (by decide) rfl ?_
  refine wq_l 1 d332_0 rfl rfl rfl rfl ?_
  refine wq_b 15 4 d332_1 rfl (by decide) rfl (fun c1 => absurd c1 ((by simp only [i_lt, i_le, i_eq, ne_eq, Int32.reduceToInt, b2_0, b2_1, decide_eq_true_eq, decide_eq_false_iff_not, Bool.not_eq_true, Bool.not_eq_false] at * <;> omega))) (fun c1 => ?_)
  refine wq_l 5 d332_4 rfl rfl rfl rfl ?_
  refine wq_k 8 255 d332_5 (by decide) rfl ?_
  refine wq_b 15 11 d332_8 rfl (by decide) rfl (fun c8 => absurd c8 ((by simp only [i_lt, i_le, i_eq, ne_eq, Int32.reduceToInt, b2_0, b2_1, decide_eq_true_eq, decide_eq_false_iff_not, Bool.not_eq_true, Bool.not_eq_false] at * <;> omega))) (fun c8 => ?_)
  refine wq_k 12 1 d332_11 (by decide) rfl ?_
  refine wq_g 16 d332_12 (by decide) ?_
  refine wq_ri d332_16 (rfl) ?_
  exact hQ
theorem sp331 {Y : pm_Y} {d : Nat} {σ : pm_S} {Q : Option Value → pm_S → Prop} {c : Nat} (hc : c < 256) (hQ : Q (some (.int (lx_six c))) σ) : pm_call Y (d + 2) 331 [.ref (1200 + 8), .int (nI c), .int 0, .int (nI 17)] σ Q := by
  refine wq_m m331 (Nat.le_of_ble_eq_true rfl) (by decide) rfl ?_
  refine wq_l 1 d331_0 rfl rfl rfl rfl ?_
  refine wq_vs 4 [_] d331_1 rfl rfl m332 rfl (Nat.le_of_ble_eq_true rfl) rfl (sp332 hc ?_)
  refine wq_b 9 7 d331_4 rfl (by decide) rfl (fun c4 => ?_) (fun c4 => absurd (by decide) c4)
  refine wq_l 10 d331_9 rfl rfl rfl rfl ?_
  refine wq_k 11 0 d331_10 (by decide) rfl ?_
  refine wq_mx 14 d331_11 rfl (by decide) rfl ?_
  rw [show (if (0 : Int32) < 0 then (0 : Int32) else 0) = 0 from rfl]
  refine wq_s 15 d331_14 rfl rfl (Nat.le_of_ble_eq_true rfl) rfl rfl ?_
  refine wq_l 16 d331_15 rfl rfl rfl rfl ?_
  refine wq_l 17 d331_16 rfl rfl rfl rfl ?_
  refine wq_kn 18 d331_17 (by decide) rfl ?_
  rw [sb8]
  refine wq_mn 21 d331_18 rfl (by decide) rfl ?_
  rw [show (if nI 17 < nI 17 then nI 17 else nI 17) = nI 17 from rfl]
  refine wq_s 22 d331_21 rfl rfl (Nat.le_of_ble_eq_true rfl) rfl rfl ?_
  refine wq_l 23 d331_22 rfl rfl rfl rfl ?_
  refine wq_l 24 d331_23 rfl rfl rfl rfl ?_
  refine wq_b 29 27 d331_24 rfl (by decide) rfl (fun c24 => ?_) (fun c24 => absurd (by decide) c24)
  refine wq_l 30 d331_29 rfl rfl rfl rfl ?_
  refine wq_l 31 d331_30 rfl rfl rfl rfl ?_
  refine wq_l 32 d331_31 rfl rfl rfl rfl ?_
  refine wq_l 33 d331_32 rfl rfl rfl rfl ?_
  refine wq_vs 36 [_, _, _, _] d331_33 rfl rfl m333 rfl (Nat.le_of_ble_eq_true rfl) rfl (sp333 hc ?_)
  refine wq_ri d331_36 (rfl) ?_
  exact hQ
theorem sp328 {Y : pm_Y} {d : Nat} {σ : pm_S} {Q : Option Value → pm_S → Prop} (hQ : Q (some (.int 0)) σ) : pm_call Y (d + 1) 328 [.ref (1100 + 8)] σ Q := by
  refine wq_m m328 (Nat.le_of_ble_eq_true rfl) (by decide) rfl ?_
  refine wq_kz 3 d328_0 rfl rfl ?_
  refine wq_b 13 6 d328_3 rfl (by decide) rfl (fun c3 => absurd c3 (by decide)) (fun c3 => ?_)
  refine wq_l 7 d328_6 rfl rfl rfl rfl ?_
  refine wq_kc 10 d328_7 (by decide) rfl rfl ?_
  refine wq_g 14 d328_10 (by decide) ?_
  refine wq_ri d328_14 (rfl) ?_
  exact hQ
theorem sp327 {Y : pm_Y} {d : Nat} {σ : pm_S} {Q : Option Value → pm_S → Prop} (hQ : Q (some (.int (nI 17))) σ) : pm_call Y (d + 2) 327 [.ref (1100 + 8)] σ Q := by
  refine wq_m m327 (Nat.le_of_ble_eq_true rfl) (by decide) rfl ?_
  refine wq_l 1 d327_0 rfl rfl rfl rfl ?_
  refine wq_kv 4 d327_1 (by decide) rfl rfl ?_
  refine wq_kn 5 d327_4 (by decide) rfl ?_
  refine wq_l 6 d327_5 rfl rfl rfl rfl ?_
  refine wq_kk 9 (j := 8) [] d327_6 rfl rfl m328 rfl (by decide) (Nat.le_of_ble_eq_true rfl) rfl (sp328 ?_)
  refine wq_a 10 d327_9 rfl rfl ?_
  refine wq_ri d327_10 (rfl) ?_
  exact hQ
theorem sp326 {Y : pm_Y} {d : Nat} {σ : pm_S} {Q : Option Value → pm_S → Prop} {c : Nat} (hc : c < 256) (hQ : Q (some (.int (lx_six c))) σ) : pm_call Y (d + 3) 326 [.ref (1100 + 8), .int (nI c), .int 0] σ Q := by
  refine wq_m m326 (Nat.le_of_ble_eq_true rfl) (by decide) rfl ?_
  refine wq_l 1 d326_0 rfl rfl rfl rfl ?_
  refine wq_kk 4 (j := 8) [] d326_1 rfl rfl m324 rfl (by decide) (Nat.le_of_ble_eq_true rfl) rfl (sp324 (by decide) ?_)
  refine wq_b 23 7 d326_4 rfl (by decide) rfl (fun c4 => absurd c4 (by decide)) (fun c4 => ?_)
  refine wq_l 8 d326_7 rfl rfl rfl rfl ?_
  refine wq_kv 11 d326_8 (by decide) rfl rfl ?_
  refine wq_l 12 d326_11 rfl rfl rfl rfl ?_
  refine wq_l 13 d326_12 rfl rfl rfl rfl ?_
  refine wq_l 14 d326_13 rfl rfl rfl rfl ?_
  refine wq_kk 17 (j := 8) [] d326_14 rfl rfl m327 rfl (by decide) (Nat.le_of_ble_eq_true rfl) rfl (sp327 ?_)
  refine wq_vs 20 [_, _, _, _] d326_17 rfl rfl m331 rfl (Nat.le_of_ble_eq_true rfl) rfl (sp331 hc ?_)
  refine wq_g 36 d326_20 (by decide) ?_
  refine wq_ri d326_36 (rfl) ?_
  exact hQ
theorem sp325 {Y : pm_Y} {d : Nat} {σ : pm_S} {Q : Option Value → pm_S → Prop} {c : Nat} (hc : c < 256) (hQ : Q (some (.int (lx_six c))) σ) : pm_call Y (d + 4) 325 [.ref (1100 + 8), .int (nI c)] σ Q := by
  refine wq_m m325 (Nat.le_of_ble_eq_true rfl) (by decide) rfl ?_
  refine wq_l 1 d325_0 rfl rfl rfl rfl ?_
  refine wq_l 2 d325_1 rfl rfl rfl rfl ?_
  refine wq_k 3 0 d325_2 (by decide) rfl ?_
  refine wq_kk 6 (j := 8) [_, _] d325_3 rfl rfl m326 rfl (by decide) (Nat.le_of_ble_eq_true rfl) rfl (sp326 hc ?_)
  refine wq_ri d325_6 (rfl) ?_
  exact hQ
theorem d43_0 : decode prog_9_method_31_code 0 = .ok (.aload_n 0, 1) := by decide +kernel
theorem d43_1 : decode prog_9_method_31_code 1 = .ok (.getfield 36, 3) := by decide +kernel
theorem d43_4 : decode prog_9_method_31_code 4 = .ok (.istore_n 2, 1) := by decide +kernel
theorem d43_5 : decode prog_9_method_31_code 5 = .ok (.iload_n 1, 1) := by decide +kernel
theorem d43_6 : decode prog_9_method_31_code 6 = .ok (.aload_n 0, 1) := by decide +kernel
theorem d43_7 : decode prog_9_method_31_code 7 = .ok (.iload_n 2, 1) := by decide +kernel
theorem d43_8 : decode prog_9_method_31_code 8 = .ok (.iconst 1, 1) := by decide +kernel
theorem d43_9 : decode prog_9_method_31_code 9 = .ok (.iadd, 1) := by decide +kernel
theorem d43_10 : decode prog_9_method_31_code 10 = .ok (.invokevirtual 73, 3) := by decide +kernel
theorem d43_13 : decode prog_9_method_31_code 13 = .ok (.invokestatic 147, 3) := by decide +kernel
theorem d43_16 : decode prog_9_method_31_code 16 = .ok (.istore_n 3, 1) := by decide +kernel
theorem d43_17 : decode prog_9_method_31_code 17 = .ok (.iload_n 3, 1) := by decide +kernel
theorem d43_18 : decode prog_9_method_31_code 18 = .ok (.iconst (-1), 1) := by decide +kernel
theorem d43_19 : decode prog_9_method_31_code 19 = .ok (.if_icmp .eq 22, 3) := by decide +kernel
theorem d43_22 : decode prog_9_method_31_code 22 = .ok (.aload_n 0, 1) := by decide +kernel
theorem d43_23 : decode prog_9_method_31_code 23 = .ok (.dup, 1) := by decide +kernel
theorem d43_24 : decode prog_9_method_31_code 24 = .ok (.getfield 36, 3) := by decide +kernel
theorem d43_27 : decode prog_9_method_31_code 27 = .ok (.iconst 2, 1) := by decide +kernel
theorem d43_28 : decode prog_9_method_31_code 28 = .ok (.iadd, 1) := by decide +kernel
theorem d43_29 : decode prog_9_method_31_code 29 = .ok (.putfield 36, 3) := by decide +kernel
theorem d43_32 : decode prog_9_method_31_code 32 = .ok (.aload_n 0, 1) := by decide +kernel
theorem d43_33 : decode prog_9_method_31_code 33 = .ok (.iload_n 3, 1) := by decide +kernel
theorem d43_34 : decode prog_9_method_31_code 34 = .ok (.iload_n 2, 1) := by decide +kernel
theorem d43_35 : decode prog_9_method_31_code 35 = .ok (.iconst 0, 1) := by decide +kernel
theorem d43_36 : decode prog_9_method_31_code 36 = .ok (.invokevirtual 77, 3) := by decide +kernel
theorem d43_39 : decode prog_9_method_31_code 39 = .ok (.iconst 1, 1) := by decide +kernel
theorem d43_40 : decode prog_9_method_31_code 40 = .ok (.ireturn, 1) := by decide +kernel
theorem d43_41 : decode prog_9_method_31_code 41 = .ok (.ldc 150, 2) := by decide +kernel
theorem d43_43 : decode prog_9_method_31_code 43 = .ok (.iload_n 1, 1) := by decide +kernel
theorem d43_44 : decode prog_9_method_31_code 44 = .ok (.i2c, 1) := by decide +kernel
theorem d43_45 : decode prog_9_method_31_code 45 = .ok (.invokevirtual 152, 3) := by decide +kernel
theorem d43_48 : decode prog_9_method_31_code 48 = .ok (.istore 4, 2) := by decide +kernel
theorem d43_50 : decode prog_9_method_31_code 50 = .ok (.iload 4, 2) := by decide +kernel
theorem d43_52 : decode prog_9_method_31_code 52 = .ok (.ifCond .ge 10, 3) := by decide +kernel
theorem d43_55 : decode prog_9_method_31_code 55 = .ok (.aload_n 0, 1) := by decide +kernel
theorem d43_56 : decode prog_9_method_31_code 56 = .ok (.iconst 1, 1) := by decide +kernel
theorem d43_57 : decode prog_9_method_31_code 57 = .ok (.iload_n 2, 1) := by decide +kernel
theorem d43_58 : decode prog_9_method_31_code 58 = .ok (.invokevirtual 69, 3) := by decide +kernel
theorem d43_61 : decode prog_9_method_31_code 61 = .ok (.ireturn, 1) := by decide +kernel
theorem d43_62 : decode prog_9_method_31_code 62 = .ok (.aload_n 0, 1) := by decide +kernel
theorem d43_63 : decode prog_9_method_31_code 63 = .ok (.dup, 1) := by decide +kernel
theorem d43_64 : decode prog_9_method_31_code 64 = .ok (.getfield 36, 3) := by decide +kernel
theorem d43_67 : decode prog_9_method_31_code 67 = .ok (.iconst 1, 1) := by decide +kernel
theorem d43_68 : decode prog_9_method_31_code 68 = .ok (.iadd, 1) := by decide +kernel
theorem d43_69 : decode prog_9_method_31_code 69 = .ok (.putfield 36, 3) := by decide +kernel
theorem d43_72 : decode prog_9_method_31_code 72 = .ok (.aload_n 0, 1) := by decide +kernel
theorem d43_73 : decode prog_9_method_31_code 73 = .ok (.bipush 52, 2) := by decide +kernel
theorem d43_75 : decode prog_9_method_31_code 75 = .ok (.iload 4, 2) := by decide +kernel
theorem d43_77 : decode prog_9_method_31_code 77 = .ok (.iadd, 1) := by decide +kernel
theorem d43_78 : decode prog_9_method_31_code 78 = .ok (.iload_n 2, 1) := by decide +kernel
theorem d43_79 : decode prog_9_method_31_code 79 = .ok (.iconst 0, 1) := by decide +kernel
theorem d43_80 : decode prog_9_method_31_code 80 = .ok (.invokevirtual 77, 3) := by decide +kernel
theorem d43_83 : decode prog_9_method_31_code 83 = .ok (.iconst 1, 1) := by decide +kernel
theorem d43_84 : decode prog_9_method_31_code 84 = .ok (.ireturn, 1) := by decide +kernel
theorem m43 : pm_m 43 = some (⟨"TypeRules$Tokens", "readSign", "(I)Z"⟩, prog_9_method_31_code, 5, (some FieldType.boolean), 2, 1, 3) := rfl
theorem lx_two_n (a b : Int) : lx_two a b = -1 ∨ (lx_two a b = nI (lx_two a b).toNatClampNeg ∧ 47 ≤ (lx_two a b).toNatClampNeg ∧ (lx_two a b).toNatClampNeg ≤ 51) := by
  unfold lx_two
  repeat' split
  all_goals first | exact Or.inl rfl | (right; decide)
theorem sp43 {d : Nat} {σ : pm_S} {Q : Option Value → pm_S → Prop} {t : Nat → Nat} {M c : Nat} {p : Nat} {a : Int64} (hT : lx_T σ t M) (h5 : σ.1 2 5 = nI c) (hc : c < 8193) (hp : p < M) (hQ : lx_Q Q σ c p (lx_sgn t M p)) : pm_call pm_Y0 (d + 5) 43 [.ref 2, .int (nI (t p))] (ls σ p a) Q := by
  have hT' := hT
  obtain ⟨hL, hM, hch, ht⟩ := hT'
  have tp := ht p
  have e1 := lx_ci (M := M) ht (p + 1)
  have e0 : lx_i t M p = (t p : Int) := if_pos hp
  have etp := nI_toInt (n := t p) (by omega)
  have htw := lx_two_n (lx_i t M p) (lx_i t M (p + 1))
  have hy : ¬ lx_two (lx_i t M p) (lx_i t M (p + 1)) = -1 → ∀ a', Q (some (.int 1)) (la (ls σ (p + 2) a') c (lx_two (lx_i t M p) (lx_i t M (p + 1))) (nI p) 0) := fun h a' => by
    obtain ⟨h1, h2, h3⟩ := htw.resolve_left h
    have hs : lx_sgn t M p = ((lx_two (lx_i t M p) (lx_i t M (p + 1))).toNatClampNeg, 0, p + 2) := if_pos h
    rw [hs] at hQ
    have := hQ (p + 2) a' (fun _ => rfl)
    rw [← h1, decide_eq_true (show _ ∧ _ from ⟨by omega, by omega⟩)] at this
    exact this
  have hn : lx_two (lx_i t M p) (lx_i t M (p + 1)) = -1 → ∀ a', (lx_six (t p) < 0 → Q (some (.int 0)) (la (ls σ p a') c 45 (nI p) 1)) ∧ (¬ lx_six (t p) < 0 → Q (some (.int 1)) (la (ls σ (p + 1) a') c (52 + lx_six (t p)) (nI p) 0)) := fun h a' => by
    have hs : lx_sgn t M p = if t p ∈ lx_sgs then (52 + lx_sgs.idxOf (t p), 0, p + 1) else (45, 1, p) := if_neg (fun z => z h)
    rw [hs] at hQ
    unfold lx_six
    by_cases hm : t p ∈ lx_sgs
    · have hlt : lx_sgs.idxOf (t p) < 17 := List.idxOf_lt_length_of_mem hm
      rw [if_pos hm]
      rw [if_pos hm] at hQ
      refine ⟨fun z => absurd z (nI_pos (by omega)), fun _ => ?_⟩
      have := hQ (p + 1) a' (fun _ => rfl)
      rw [decide_eq_true (show _ ∧ _ from ⟨by show 52 + lx_sgs.idxOf (t p) ≠ 45; omega, by show 52 + lx_sgs.idxOf (t p) ≠ 44; omega⟩)] at this
      rw [show (52 : Int32) = nI 52 from rfl, nI_add]
      exact this
    · rw [if_neg hm]
      rw [if_neg hm] at hQ
      exact ⟨fun _ => hQ p a' (fun z => absurd rfl z), fun z => absurd (by decide) z⟩
  clear hQ
  refine wq_m m43 (Nat.le_of_ble_eq_true rfl) (by decide) rfl ?_
  refine wq_l 1 d43_0 rfl rfl rfl rfl ?_
  refine wq_gi (ci := 2) (j := 7) 4 d43_1 rfl rfl rfl rfl ?_
  rw [ls_7]
  refine wq_s 5 d43_4 rfl rfl (Nat.le_of_ble_eq_true rfl) rfl rfl ?_
  refine wq_l 6 d43_5 rfl rfl rfl rfl ?_
  refine wq_l 7 d43_6 rfl rfl rfl rfl ?_
  refine wq_l 8 d43_7 rfl rfl rfl rfl ?_
  refine wq_k 9 1 d43_8 (by decide) rfl ?_
  refine wq_a 10 d43_9 rfl rfl ?_
  rw [show nI p + 1 = nI (p + 1) from (nI_succ p).symm]
  refine wq_v 13 [_] d43_10 rfl rfl m27 rfl rfl (Nat.le_of_ble_eq_true rfl) rfl (sp27 (ls_T hT) (by omega) ?_)
  refine wq_vs 16 [_, _] d43_13 rfl rfl m44 rfl (Nat.le_of_ble_eq_true rfl) rfl (sp44 ?_)
  rw [e1, etp, ← e0]
  refine wq_s 17 d43_16 rfl rfl (Nat.le_of_ble_eq_true rfl) rfl rfl ?_
  refine wq_l 18 d43_17 rfl rfl rfl rfl ?_
  refine wq_k 19 (-1) d43_18 (by decide) rfl ?_
  refine wq_b 41 22 d43_19 rfl (by decide) rfl (fun c19 => ?_) (fun c19 => ?_)
  · -- pc 41
    refine wq_ks 43 8 d43_41 rfl rfl ?_
    refine wq_l 44 d43_43 rfl rfl rfl rfl ?_
    refine wq_a 45 d43_44 rfl rfl ?_
    rw [pk_char, pk_tn (by omega), Nat.mod_eq_of_lt (by omega)]
    refine wq_kk 48 (j := 8) [_] d43_45 rfl rfl m325 rfl (by decide) (Nat.le_of_ble_eq_true rfl) rfl (sp325 tp ?_)
    refine wq_s 50 d43_48 rfl rfl (Nat.le_of_ble_eq_true rfl) rfl rfl ?_
    refine wq_l 52 d43_50 rfl rfl rfl rfl ?_
    refine wq_b 62 55 d43_52 rfl (by decide) rfl (fun c52 => ?_) (fun c52 => ?_)
    · -- pc 62
      refine wq_l 63 d43_62 rfl rfl rfl rfl ?_
      refine wq_a 64 d43_63 rfl rfl ?_
      refine wq_gi (ci := 2) (j := 7) 67 d43_64 rfl rfl rfl rfl ?_
      rw [ls_7]
      refine wq_k 68 1 d43_67 (by decide) rfl ?_
      refine wq_a 69 d43_68 rfl rfl ?_
      refine wq_pf (ci := 2) (j := 7) 72 d43_69 rfl rfl rfl ⟨rfl, rfl⟩ rfl ?_
      first | rw [show nI p + 2 = nI (p + 2) from nI_add p 2, ls_p7] | rw [show nI p + 1 = nI (p + 1) from (nI_succ p).symm, ls_p7]
      refine wq_l 73 d43_72 rfl rfl rfl rfl ?_
      refine wq_k 75 52 d43_73 (by decide) rfl ?_
      refine wq_l 77 d43_75 rfl rfl rfl rfl ?_
      refine wq_a 78 d43_77 rfl rfl ?_
      refine wq_l 79 d43_78 rfl rfl rfl rfl ?_
      refine wq_k 80 0 d43_79 (by decide) rfl ?_
      refine wq_v 83 [_, _, _] d43_80 rfl rfl m30 rfl rfl (Nat.le_of_ble_eq_true rfl) rfl (sp30 h5 hc ?_)
      refine wq_k 84 1 d43_83 (by decide) rfl ?_
      refine wq_ri d43_84 (rfl) ?_
      exact (hn c19 _).2 (by simpa using c52)
    · -- pc 55
      refine wq_l 56 d43_55 rfl rfl rfl rfl ?_
      refine wq_k 57 1 d43_56 (by decide) rfl ?_
      refine wq_l 58 d43_57 rfl rfl rfl rfl ?_
      refine wq_v 61 [_, _] d43_58 rfl rfl m29 rfl rfl (Nat.le_of_ble_eq_true rfl) rfl (sp29 h5 hc ?_)
      refine wq_ri d43_61 (rfl) ?_
      exact (hn c19 _).1 (by simpa using c52)
  · -- pc 22
    refine wq_l 23 d43_22 rfl rfl rfl rfl ?_
    refine wq_a 24 d43_23 rfl rfl ?_
    refine wq_gi (ci := 2) (j := 7) 27 d43_24 rfl rfl rfl rfl ?_
    rw [ls_7]
    refine wq_k 28 2 d43_27 (by decide) rfl ?_
    refine wq_a 29 d43_28 rfl rfl ?_
    refine wq_pf (ci := 2) (j := 7) 32 d43_29 rfl rfl rfl ⟨rfl, rfl⟩ rfl ?_
    first | rw [show nI p + 2 = nI (p + 2) from nI_add p 2, ls_p7] | rw [show nI p + 1 = nI (p + 1) from (nI_succ p).symm, ls_p7]
    refine wq_l 33 d43_32 rfl rfl rfl rfl ?_
    refine wq_l 34 d43_33 rfl rfl rfl rfl ?_
    refine wq_l 35 d43_34 rfl rfl rfl rfl ?_
    refine wq_k 36 0 d43_35 (by decide) rfl ?_
    refine wq_v 39 [_, _, _] d43_36 rfl rfl m30 rfl rfl (Nat.le_of_ble_eq_true rfl) rfl (sp30 h5 hc ?_)
    refine wq_k 40 1 d43_39 (by decide) rfl ?_
    refine wq_ri d43_40 (rfl) ?_
    exact hy c19 _
theorem d40_0 : decode prog_9_method_21_code 0 = .ok (.aload_n 0, 1) := by decide +kernel
theorem d40_1 : decode prog_9_method_21_code 1 = .ok (.getfield 36, 3) := by decide +kernel
theorem d40_4 : decode prog_9_method_21_code 4 = .ok (.istore_n 1, 1) := by decide +kernel
theorem d40_5 : decode prog_9_method_21_code 5 = .ok (.iload_n 1, 1) := by decide +kernel
theorem d40_6 : decode prog_9_method_21_code 6 = .ok (.istore_n 2, 1) := by decide +kernel
theorem d40_7 : decode prog_9_method_21_code 7 = .ok (.iload_n 2, 1) := by decide +kernel
theorem d40_8 : decode prog_9_method_21_code 8 = .ok (.aload_n 0, 1) := by decide +kernel
theorem d40_9 : decode prog_9_method_21_code 9 = .ok (.getfield 33, 3) := by decide +kernel
theorem d40_12 : decode prog_9_method_21_code 12 = .ok (.if_icmp .ge 21, 3) := by decide +kernel
theorem d40_15 : decode prog_9_method_21_code 15 = .ok (.aload_n 0, 1) := by decide +kernel
theorem d40_16 : decode prog_9_method_21_code 16 = .ok (.getfield 9, 3) := by decide +kernel
theorem d40_19 : decode prog_9_method_21_code 19 = .ok (.iload_n 2, 1) := by decide +kernel
theorem d40_20 : decode prog_9_method_21_code 20 = .ok (.caload, 1) := by decide +kernel
theorem d40_21 : decode prog_9_method_21_code 21 = .ok (.invokestatic 91, 3) := by decide +kernel
theorem d40_24 : decode prog_9_method_21_code 24 = .ok (.ifCond .eq 9, 3) := by decide +kernel
theorem d40_27 : decode prog_9_method_21_code 27 = .ok (.iinc 2 1, 3) := by decide +kernel
theorem d40_30 : decode prog_9_method_21_code 30 = .ok (.goto (-23), 3) := by decide +kernel
theorem d40_33 : decode prog_9_method_21_code 33 = .ok (.iload_n 2, 1) := by decide +kernel
theorem d40_34 : decode prog_9_method_21_code 34 = .ok (.iload_n 1, 1) := by decide +kernel
theorem d40_35 : decode prog_9_method_21_code 35 = .ok (.isub, 1) := by decide +kernel
theorem d40_36 : decode prog_9_method_21_code 36 = .ok (.bipush 32, 2) := by decide +kernel
theorem d40_38 : decode prog_9_method_21_code 38 = .ok (.if_icmp .le 10, 3) := by decide +kernel
theorem d40_41 : decode prog_9_method_21_code 41 = .ok (.aload_n 0, 1) := by decide +kernel
theorem d40_42 : decode prog_9_method_21_code 42 = .ok (.iconst 3, 1) := by decide +kernel
theorem d40_43 : decode prog_9_method_21_code 43 = .ok (.iload_n 1, 1) := by decide +kernel
theorem d40_44 : decode prog_9_method_21_code 44 = .ok (.invokevirtual 69, 3) := by decide +kernel
theorem d40_47 : decode prog_9_method_21_code 47 = .ok (.ireturn, 1) := by decide +kernel
theorem d40_48 : decode prog_9_method_21_code 48 = .ok (.aload_n 0, 1) := by decide +kernel
theorem d40_49 : decode prog_9_method_21_code 49 = .ok (.iload_n 2, 1) := by decide +kernel
theorem d40_50 : decode prog_9_method_21_code 50 = .ok (.putfield 36, 3) := by decide +kernel
theorem d40_53 : decode prog_9_method_21_code 53 = .ok (.aload_n 0, 1) := by decide +kernel
theorem d40_54 : decode prog_9_method_21_code 54 = .ok (.getfield 15, 3) := by decide +kernel
theorem d40_57 : decode prog_9_method_21_code 57 = .ok (.aload_n 0, 1) := by decide +kernel
theorem d40_58 : decode prog_9_method_21_code 58 = .ok (.getfield 9, 3) := by decide +kernel
theorem d40_61 : decode prog_9_method_21_code 61 = .ok (.iload_n 1, 1) := by decide +kernel
theorem d40_62 : decode prog_9_method_21_code 62 = .ok (.iload_n 2, 1) := by decide +kernel
theorem d40_63 : decode prog_9_method_21_code 63 = .ok (.invokevirtual 106, 3) := by decide +kernel
theorem d40_66 : decode prog_9_method_21_code 66 = .ok (.istore_n 3, 1) := by decide +kernel
theorem d40_67 : decode prog_9_method_21_code 67 = .ok (.aload_n 0, 1) := by decide +kernel
theorem d40_68 : decode prog_9_method_21_code 68 = .ok (.iload_n 3, 1) := by decide +kernel
theorem d40_69 : decode prog_9_method_21_code 69 = .ok (.ifCond .lt 13, 3) := by decide +kernel
theorem d40_72 : decode prog_9_method_21_code 72 = .ok (.iload_n 3, 1) := by decide +kernel
theorem d40_73 : decode prog_9_method_21_code 73 = .ok (.bipush 41, 2) := by decide +kernel
theorem d40_75 : decode prog_9_method_21_code 75 = .ok (.if_icmp .ge 7, 3) := by decide +kernel
theorem d40_78 : decode prog_9_method_21_code 78 = .ok (.iload_n 3, 1) := by decide +kernel
theorem d40_79 : decode prog_9_method_21_code 79 = .ok (.goto 5, 3) := by decide +kernel
theorem d40_82 : decode prog_9_method_21_code 82 = .ok (.bipush 41, 2) := by decide +kernel
theorem d40_84 : decode prog_9_method_21_code 84 = .ok (.iload_n 1, 1) := by decide +kernel
theorem d40_85 : decode prog_9_method_21_code 85 = .ok (.iload_n 3, 1) := by decide +kernel
theorem d40_86 : decode prog_9_method_21_code 86 = .ok (.invokevirtual 77, 3) := by decide +kernel
theorem d40_89 : decode prog_9_method_21_code 89 = .ok (.iconst 1, 1) := by decide +kernel
theorem d40_90 : decode prog_9_method_21_code 90 = .ok (.ireturn, 1) := by decide +kernel
theorem m40 : pm_m 40 = some (⟨"TypeRules$Tokens", "readName", "()Z"⟩, prog_9_method_21_code, 4, (some FieldType.boolean), 2, 0, 3) := rfl
/-! NAMES -/
theorem nm_L0 : nm_L pm_Y0 1 12 13 14 15 := ⟨rfl, rfl, rfl, rfl, rfl⟩
theorem nm_D0 : nm_D 12 13 14 15 11 := by unfold nm_D; decide
/-- the names so far, before place p -/
def lx_J (t : Nat → Nat) (M p : Nat) (ns : List (List Nat)) : Prop := ns.Nodup ∧ 2 * ns.length ≤ 151 + p ∧ (lx_np (lx_i t M p) = true → 2 * ns.length ≤ 150 + p) ∧ ns.flatten.length ≤ 512 + p ∧ nl_N 8 <+: ns
/-- from σ to σ': one token more; names ns, place e -/
def lx_A (σ σ' : pm_S) (c : Nat) (x y z : Int32) (ns : List (List Nat)) : Prop :=
  (∀ a b, ¬ (a = 2 ∧ (b = 5 ∨ b = 7)) → ¬ (a = 1 ∧ b = 4) → σ'.1 a b = σ.1 a b) ∧ σ'.1 2 5 = nI (c + 1) ∧ (∀ a b, ¬ (a = 2 ∧ b = 8) → σ'.2.1 a b = σ.2.1 a b) ∧ (∀ k, k < 12 ∨ 18 < k → σ'.2.2 k = σ.2.2 k) ∧ σ'.2.2 16 = upd (σ.2.2 16) c x ∧ σ'.2.2 17 = upd (σ.2.2 17) c y ∧ σ'.2.2 18 = upd (σ.2.2 18) c z ∧ nt_I σ' 1 12 13 14 15 ns
theorem la_A {σ σ1 : pm_S} {c : Nat} {x y z : Int32} {ns : List (List Nat)} (h1 : ∀ a b, ¬ (a = 2 ∧ b = 7) → ¬ (a = 1 ∧ b = 4) → σ1.1 a b = σ.1 a b) (h2 : ∀ a b, ¬ (a = 2 ∧ b = 8) → σ1.2.1 a b = σ.2.1 a b) (h3 : ∀ k, k < 12 ∨ 15 < k → σ1.2.2 k = σ.2.2 k) (hI : nt_I σ1 1 12 13 14 15 ns) : lx_A σ (la σ1 c x y z) c x y z ns := by
  have e6 := h3 16 (by omega)
  have e7 := h3 17 (by omega)
  have e8 := h3 18 (by omega)
  refine ⟨fun a b n1 n2 => ?_, rfl, h2, fun k hk => ?_, ?_, ?_, ?_, hI⟩
  · show (if a = 2 then (if b = 5 then _ else σ1.1 a b) else σ1.1 a b) = _
    by_cases q : a = 2
    · by_cases q' : b = 5
      · exact absurd ⟨q, Or.inl q'⟩ n1
      · rw [if_pos q, if_neg q']; exact h1 a b (fun z => n1 ⟨z.1, Or.inr z.2⟩) n2
    · rw [if_neg q]; exact h1 a b (fun z => q z.1) n2
  · show (pm_pr (pm_pr (pm_pr σ1 16 _) 17 _) 18 _).2.2 k = _
    rw [pm_rne (by omega), pm_rne (by omega), pm_rne (by omega)]
    exact h3 k (by omega)
  · show upd (σ1.2.2 16) c x = _
    rw [e6]
  · show upd (σ1.2.2 17) c y = _
    rw [e7]
  · show upd (σ1.2.2 18) c z = _
    rw [e8]
theorem ls_1 {σ : pm_S} {p : Nat} {a : Int64} : ∀ x y, ¬ (x = 2 ∧ y = 7) → (ls σ p a).1 x y = σ.1 x y := fun x y h => by
  show (if x = 2 then (if y = 7 then _ else σ.1 x y) else σ.1 x y) = _
  by_cases q : x = 2
  · rw [if_pos q, if_neg (fun z => h ⟨q, z⟩)]
  · rw [if_neg q]
theorem ls_2 {σ : pm_S} {p : Nat} {a : Int64} : ∀ x y, ¬ (x = 2 ∧ y = 8) → (ls σ p a).2.1 x y = σ.2.1 x y := fun x y h => by
  show (if x = 2 then (if y = 8 then _ else σ.2.1 x y) else σ.2.1 x y) = _
  by_cases q : x = 2
  · rw [if_pos q, if_neg (fun z => h ⟨q, z⟩)]
  · rw [if_neg q]
theorem lx_idx {ns : List (List Nat)} {w : List Nat} {i : Nat} (h : ns.Nodup) (hi : ns[i]? = some w) : ns.idxOf w = i ∧ w ∈ ns := by
  obtain ⟨h1, h2⟩ := List.getElem?_eq_some_iff.mp hi
  refine ⟨?_, List.mem_of_getElem? hi⟩
  rw [← h2]
  exact List.Nodup.idxOf_getElem h i h1
theorem lx_nl {d : Nat} {σ : pm_S} {Q : Option Value → pm_S → Prop} {t : Nat → Nat} {M : Nat} {p : Nat} {a : Int64} {q : Nat} {x : Value} (hT : lx_T σ t M) (hQ : pm_WP pm_Y0 (pm_call pm_Y0 (d + 2)) 2 prog_9_method_21_code (some FieldType.boolean) Q 33 [.ref 2, .int (nI q), .int (nI (lx_ne t M q)), x] [] (ls σ p a)) : ∀ (n i : Nat), M - i = n → i ≤ M → lx_ne t M i = lx_ne t M q → pm_WP pm_Y0 (pm_call pm_Y0 (d + 2)) 2 prog_9_method_21_code (some FieldType.boolean) Q 7 [.ref 2, .int (nI q), .int (nI i), x] [] (ls σ p a) := by
  obtain ⟨hL, hM, hch, ht⟩ := hT
  have hLs : (ls σ p a).1 2 6 = nI M := hL
  intro n
  induction n with
  | zero =>
    intro i hn hi he
    have ei := nI_toInt (n := i) (by omega)
    have eM := nI_toInt (n := M) (by omega)
    rw [← he, lx_ne_u, if_neg (by omega)] at hQ
    refine wq_l 8 d40_7 rfl rfl rfl rfl ?_
    refine wq_l 9 d40_8 rfl rfl rfl rfl ?_
    refine wq_gi (ci := 2) (j := 6) 12 d40_9 rfl rfl rfl rfl ?_
    rw [hLs]
    refine wq_b 33 15 d40_12 rfl (by decide) rfl (fun c12 => ?_) (fun c12 => absurd ((by simp only [i_lt, i_le, i_eq, ne_eq, Int32.reduceToInt, b2_0, b2_1, decide_eq_true_eq, decide_eq_false_iff_not, Bool.not_eq_true, Bool.not_eq_false] at * <;> omega)) c12)
    exact hQ
  | succ n ih =>
    intro i hn hi he
    have ei := nI_toInt (n := i) (by omega)
    have eM := nI_toInt (n := M) (by omega)
    have tp := ht i
    have et := nI_toInt (n := t i) (by omega)
    have g0 : (ls σ p a).2.2 11 i = nI (t i) := hch i
    refine wq_l 8 d40_7 rfl rfl rfl rfl ?_
    refine wq_l 9 d40_8 rfl rfl rfl rfl ?_
    refine wq_gi (ci := 2) (j := 6) 12 d40_9 rfl rfl rfl rfl ?_
    rw [hLs]
    refine wq_b 33 15 d40_12 rfl (by decide) rfl (fun c12 => absurd c12 ((by simp only [i_lt, i_le, i_eq, ne_eq, Int32.reduceToInt, b2_0, b2_1, decide_eq_true_eq, decide_eq_false_iff_not, Bool.not_eq_true, Bool.not_eq_false] at * <;> omega))) (fun c12 => ?_)
    refine wq_l 16 d40_15 rfl rfl rfl rfl ?_
    refine wq_gr (ci := 2) (j := 0) (q := 11) 19 d40_16 rfl rfl rfl rfl ?_
    refine wq_l 20 d40_19 rfl rfl rfl rfl ?_
    refine wq_al 21 d40_20 rfl rfl rfl (vp_in_iff.mpr (by simp only [i_lt, i_le, i_eq, ne_eq, Int32.reduceToInt, b2_0, b2_1, decide_eq_true_eq, decide_eq_false_iff_not, Bool.not_eq_true, Bool.not_eq_false] at * <;> omega)) ?_
    rw [nI_clamp (by omega), g0]
    refine wq_vs 24 [_] d40_21 rfl rfl m38 rfl (Nat.le_of_ble_eq_true rfl) rfl (sp38 ?_)
    rw [et]
    refine wq_b 33 27 d40_24 rfl (by decide) rfl (fun c24 => ?_) (fun c24 => ?_)
    · -- pc 33
      rw [← he, lx_ne_u, if_neg (fun z => by have w := z.2; simp only [i_lt, i_le, i_eq, ne_eq, Int32.reduceToInt, b2_0, b2_1, decide_eq_true_eq, decide_eq_false_iff_not, Bool.not_eq_true, Bool.not_eq_false] at c24; rw [c24] at w; cases w)] at hQ
      exact hQ
    · -- pc 27
      refine wq_i 30 d40_27 rfl rfl rfl ?_
      rw [show nI i + Int32.ofInt 1 = nI (i + 1) from (nI_succ i).symm]
      refine wq_g 7 d40_30 (by decide) ?_
      exact ih (i + 1) (by omega) (by omega) (by rw [← he, lx_ne_u t M i, if_pos ⟨by omega, (by simpa only [i_lt, i_le, i_eq, ne_eq, Int32.reduceToInt, b2_0, b2_1, decide_eq_true_eq, decide_eq_false_iff_not, Bool.not_eq_true, Bool.not_eq_false] using c24)⟩])
theorem sp40 {d : Nat} {σ : pm_S} {Q : Option Value → pm_S → Prop} {t : Nat → Nat} {M c : Nat} {p : Nat} {a : Int64} {ns : List (List Nat)} (hT : lx_T σ t M) (h5 : σ.1 2 5 = nI c) (hc : c < 8193) (hp : p < M) (hnp : lx_np (t p) = true) (hI : nt_I σ 1 12 13 14 15 ns) (hJ : lx_J t M p ns) (hQ : ∀ σ', lx_A σ σ' c (nI (lx_nam t M p ns).1.1) (nI p) (nI (lx_nam t M p ns).1.2.1) (lx_nam t M p ns).2 → ((lx_nam t M p ns).1.1 ≠ 45 → σ'.1 2 7 = nI (lx_nam t M p ns).1.2.2) → Q (some (.int (b2 (decide ((lx_nam t M p ns).1.1 ≠ 45))))) σ') : pm_call pm_Y0 (d + 4) 40 [.ref 2] (ls σ p a) Q := by
  have hT' := hT
  obtain ⟨hL, hM, hch, ht⟩ := hT'
  obtain ⟨j1, j2, j3, j4, j5⟩ := hJ
  have j3 := j3 (by rw [show lx_i t M p = (t p : Int) from if_pos hp]; exact hnp)
  have b1 := lx_ne_b (t := t) (M := M) (M - p) p
  have hne : lx_ne t M p ≤ M := b1.2 (by omega)
  have hle : p < lx_ne t M p := by
    rw [lx_ne_u, if_pos ⟨hp, hnp⟩]
    exact (lx_ne_b (t := t) (M := M) (M - (p + 1)) (p + 1)).1
  generalize hE : lx_ne t M p = e at *
  have eD := nI_toInt (n := e - p) (by omega)
  have hTx : nm_T pm_Y0 (ls σ e a) 11 8192 t := ⟨rfl, by decide, fun i _ => ⟨hch i, by have := ht i; omega⟩⟩
  refine wq_m m40 (Nat.le_of_ble_eq_true rfl) (by decide) rfl ?_
  refine wq_l 1 d40_0 rfl rfl rfl rfl ?_
  refine wq_gi (ci := 2) (j := 7) 4 d40_1 rfl rfl rfl rfl ?_
  rw [ls_7]
  refine wq_s 5 d40_4 rfl rfl (Nat.le_of_ble_eq_true rfl) rfl rfl ?_
  refine wq_l 6 d40_5 rfl rfl rfl rfl ?_
  refine wq_s 7 d40_6 rfl rfl (Nat.le_of_ble_eq_true rfl) rfl rfl ?_
  refine lx_nl hT ?_ _ _ rfl (by omega) rfl
  rw [hE]
  refine wq_l 34 d40_33 rfl rfl rfl rfl ?_
  refine wq_l 35 d40_34 rfl rfl rfl rfl ?_
  refine wq_a 36 d40_35 rfl rfl ?_
  refine wq_k 38 32 d40_36 (by decide) rfl ?_
  rw [pk_sub (by omega)]
  refine wq_b 48 41 d40_38 rfl (by decide) rfl (fun c38 => ?_) (fun c38 => ?_)
  · -- pc 48
    refine wq_l 49 d40_48 rfl rfl rfl rfl ?_
    refine wq_l 50 d40_49 rfl rfl rfl rfl ?_
    refine wq_pf (ci := 2) (j := 7) 53 d40_50 rfl rfl rfl ⟨rfl, rfl⟩ rfl ?_
    rw [ls_p7]
    have hsz : ¬ 32 < e - p := by simp only [i_lt, i_le, i_eq, ne_eq, Int32.reduceToInt, b2_0, b2_1, decide_eq_true_eq, decide_eq_false_iff_not, Bool.not_eq_true, Bool.not_eq_false, eD] at c38; omega
    refine wq_l 54 d40_53 rfl rfl rfl rfl ?_
    refine wq_gr (ci := 2) (j := 1) (q := 1) 57 d40_54 rfl rfl rfl rfl ?_
    refine wq_l 58 d40_57 rfl rfl rfl rfl ?_
    refine wq_gr (ci := 2) (j := 0) (q := 11) 61 d40_58 rfl rfl rfl rfl ?_
    refine wq_l 62 d40_61 rfl rfl rfl rfl ?_
    refine wq_l 63 d40_62 rfl rfl rfl rfl ?_
    refine wq_v 66 [_, _, _] d40_63 rfl rfl m15 rfl rfl (Nat.le_of_ble_eq_true rfl) rfl (nt_numberOf nm_L0 nm_D0 hTx hI (by omega) (by omega) (fun i hi => ?_) (fun hno => ⟨by omega, by omega, fun σ' hI' f1 f2 f3 => ?_⟩))
    · obtain ⟨x1, x2⟩ := lx_idx j1 hi
      have hil : i < 4171 := by have := (List.getElem?_eq_some_iff.mp hi).1; omega
      have eidx := nI_toInt (n := i) (by omega)
      have hg : lx_nam t M p ns = ((min i 41, i, e), ns) := by unfold lx_nam; rw [hE, if_neg hsz, if_pos x2, x1]
      rw [hg] at hQ
      refine wq_s 67 d40_66 rfl rfl (Nat.le_of_ble_eq_true rfl) rfl rfl ?_
      refine wq_l 68 d40_67 rfl rfl rfl rfl ?_
      refine wq_l 69 d40_68 rfl rfl rfl rfl ?_
      refine wq_b 82 72 d40_69 rfl (by decide) rfl (fun c69 => ?_) (fun c69 => ?_)
      · -- pc 82
        have hmin : min i 41 = 41 := by first | (exfalso; simp only [i_lt, i_le, i_eq, ne_eq, Int32.reduceToInt, b2_0, b2_1, decide_eq_true_eq, decide_eq_false_iff_not, Bool.not_eq_true, Bool.not_eq_false, eidx] at c69; omega) | (simp only [i_lt, i_le, i_eq, ne_eq, Int32.reduceToInt, b2_0, b2_1, decide_eq_true_eq, decide_eq_false_iff_not, Bool.not_eq_true, Bool.not_eq_false, eidx] at c75; omega)
        rw [hmin] at hQ
        refine wq_k 84 41 d40_82 (by decide) rfl ?_
        refine wq_l 85 d40_84 rfl rfl rfl rfl ?_
        refine wq_l 86 d40_85 rfl rfl rfl rfl ?_
        refine wq_v 89 [_, _, _] d40_86 rfl rfl m30 rfl rfl (Nat.le_of_ble_eq_true rfl) rfl (sp30 h5 hc ?_)
        refine wq_k 90 1 d40_89 (by decide) rfl ?_
        refine wq_ri d40_90 (rfl) ?_
        have := hQ _ (la_A (σ1 := ls σ e a) (fun x y h _ => ls_1 x y h) ls_2 (fun _ _ => rfl) hI) (fun _ => rfl)
        first
          | exact this
          | (rw [show b2 (decide ((((i, i, e), ns) : lx_K × List (List Nat)).1.1 ≠ 45)) = 1 from b2_t (decide_eq_true (show i ≠ 45 by omega))] at this; exact this)
      · -- pc 72
        refine wq_l 73 d40_72 rfl rfl rfl rfl ?_
        refine wq_k 75 41 d40_73 (by decide) rfl ?_
        refine wq_b 82 78 d40_75 rfl (by decide) rfl (fun c75 => ?_) (fun c75 => ?_)
        · -- pc 82
          have hmin : min i 41 = 41 := by first | (exfalso; simp only [i_lt, i_le, i_eq, ne_eq, Int32.reduceToInt, b2_0, b2_1, decide_eq_true_eq, decide_eq_false_iff_not, Bool.not_eq_true, Bool.not_eq_false, eidx] at c69; omega) | (simp only [i_lt, i_le, i_eq, ne_eq, Int32.reduceToInt, b2_0, b2_1, decide_eq_true_eq, decide_eq_false_iff_not, Bool.not_eq_true, Bool.not_eq_false, eidx] at c75; omega)
          rw [hmin] at hQ
          refine wq_k 84 41 d40_82 (by decide) rfl ?_
          refine wq_l 85 d40_84 rfl rfl rfl rfl ?_
          refine wq_l 86 d40_85 rfl rfl rfl rfl ?_
          refine wq_v 89 [_, _, _] d40_86 rfl rfl m30 rfl rfl (Nat.le_of_ble_eq_true rfl) rfl (sp30 h5 hc ?_)
          refine wq_k 90 1 d40_89 (by decide) rfl ?_
          refine wq_ri d40_90 (rfl) ?_
          have := hQ _ (la_A (σ1 := ls σ e a) (fun x y h _ => ls_1 x y h) ls_2 (fun _ _ => rfl) hI) (fun _ => rfl)
          first
            | exact this
            | (rw [show b2 (decide ((((i, i, e), ns) : lx_K × List (List Nat)).1.1 ≠ 45)) = 1 from b2_t (decide_eq_true (show i ≠ 45 by omega))] at this; exact this)
        · -- pc 78
          refine wq_l 79 d40_78 rfl rfl rfl rfl ?_
          have hmin : min i 41 = i := by simp only [i_lt, i_le, i_eq, ne_eq, Int32.reduceToInt, b2_0, b2_1, decide_eq_true_eq, decide_eq_false_iff_not, Bool.not_eq_true, Bool.not_eq_false, eidx] at c75; omega
          rw [hmin] at hQ
          refine wq_g 84 d40_79 (by decide) ?_
          refine wq_l 85 d40_84 rfl rfl rfl rfl ?_
          refine wq_l 86 d40_85 rfl rfl rfl rfl ?_
          refine wq_v 89 [_, _, _] d40_86 rfl rfl m30 rfl rfl (Nat.le_of_ble_eq_true rfl) rfl (sp30 h5 hc ?_)
          refine wq_k 90 1 d40_89 (by decide) rfl ?_
          refine wq_ri d40_90 (rfl) ?_
          have := hQ _ (la_A (σ1 := ls σ e a) (fun x y h _ => ls_1 x y h) ls_2 (fun _ _ => rfl) hI) (fun _ => rfl)
          first
            | exact this
            | (rw [show b2 (decide ((((i, i, e), ns) : lx_K × List (List Nat)).1.1 ≠ 45)) = 1 from b2_t (decide_eq_true (show i ≠ 45 by omega))] at this; exact this)
    · have hil : ns.length < 4171 := by omega
      have eidx := nI_toInt (n := ns.length) (by omega)
      have hg : lx_nam t M p ns = ((min ns.length 41, ns.length, e), ns ++ [nt_w t p e]) := by unfold lx_nam; rw [hE, if_neg hsz, if_neg hno]
      have h75 : 75 ≤ ns.length := by have := j5.length_le; rw [nl_N_len.1] at this; exact this
      have hmin : min ns.length 41 = 41 := by omega
      rw [hg, hmin] at hQ
      have h5' : σ'.1 2 5 = nI c := (f1 2 5 (by decide)).trans h5
      refine wq_s 67 d40_66 rfl rfl (Nat.le_of_ble_eq_true rfl) rfl rfl ?_
      refine wq_l 68 d40_67 rfl rfl rfl rfl ?_
      refine wq_l 69 d40_68 rfl rfl rfl rfl ?_
      refine wq_b 82 72 d40_69 rfl (by decide) rfl (fun c69 => absurd c69 ((by simp only [i_lt, i_le, i_eq, ne_eq, Int32.reduceToInt, b2_0, b2_1, decide_eq_true_eq, decide_eq_false_iff_not, Bool.not_eq_true, Bool.not_eq_false, eidx] at * <;> omega))) (fun c69 => ?_)
      refine wq_l 73 d40_72 rfl rfl rfl rfl ?_
      refine wq_k 75 41 d40_73 (by decide) rfl ?_
      refine wq_b 82 78 d40_75 rfl (by decide) rfl (fun c75 => ?_) (fun c75 => absurd ((by simp only [i_lt, i_le, i_eq, ne_eq, Int32.reduceToInt, b2_0, b2_1, decide_eq_true_eq, decide_eq_false_iff_not, Bool.not_eq_true, Bool.not_eq_false, eidx] at * <;> omega)) c75)
      refine wq_k 84 41 d40_82 (by decide) rfl ?_
      refine wq_l 85 d40_84 rfl rfl rfl rfl ?_
      refine wq_l 86 d40_85 rfl rfl rfl rfl ?_
      refine wq_v 89 [_, _, _] d40_86 rfl rfl m30 rfl rfl (Nat.le_of_ble_eq_true rfl) rfl (sp30 h5' hc ?_)
      refine wq_k 90 1 d40_89 (by decide) rfl ?_
      refine wq_ri d40_90 (rfl) ?_
      have := hQ _ (la_A (σ1 := σ') (fun x y h h' => (f1 x y h').trans (ls_1 x y h)) (fun x y h => by rw [f2]; exact ls_2 x y h) (fun k hk => f3 k (by omega) (by omega) (by omega) (by omega)) hI') (fun _ => f1 2 7 (by decide))
      exact this
  · -- pc 41
    refine wq_l 42 d40_41 rfl rfl rfl rfl ?_
    refine wq_k 43 3 d40_42 (by decide) rfl ?_
    refine wq_l 44 d40_43 rfl rfl rfl rfl ?_
    refine wq_v 47 [_, _] d40_44 rfl rfl m29 rfl rfl (Nat.le_of_ble_eq_true rfl) rfl (sp29 h5 hc ?_)
    refine wq_ri d40_47 (rfl) ?_
    have hb : lx_nam t M p ns = ((45, 3, p), ns) := by unfold lx_nam; rw [hE]; exact if_pos (by simp only [i_lt, i_le, i_eq, ne_eq, Int32.reduceToInt, b2_0, b2_1, decide_eq_true_eq, decide_eq_false_iff_not, Bool.not_eq_true, Bool.not_eq_false, eD] at c38; omega)
    rw [hb] at hQ
    exact hQ _ (la_A (fun x y h _ => ls_1 x y h) ls_2 (fun _ _ => rfl) hI) (fun z => absurd rfl z)
