/-! THE CLASS'S BLOCKS -/
theorem cb_c {l : List pg_N} {NN : Nat} {B : List rl_B} {σ : pm_S} (h : cb_I l NN B σ) : σ.1 5 8 ≤ 418 := by
  rw [h.2.1, i_le, nI_toInt (by have := h.1; omega)]
  have := h.1
  show ((9 + B.length : Nat) : Int) ≤ 418
  omega
theorem cb_in {l : List pg_N} {NN : Nat} {B : List rl_B} {σ : pm_S} (h : cb_I l NN B σ) {i : Nat} (hi : i < 9 + B.length) : (nI i).toNatClampNeg = i ∧ (0 : Int32) ≤ nI i ∧ nI i < σ.1 5 8 := by
  have := h.1
  refine ⟨nI_clamp (by omega), ?_, ?_⟩
  · rw [i_le, nI_toInt (by omega)]; show (0 : Int) ≤ _; omega
  · rw [h.2.1, i_lt, nI_toInt (by omega), nI_toInt (by omega)]; omega
theorem rl_ownb : ∀ {B : List rl_B} {x : Int32} {b : Nat} {y : rl_B}, rl_own B x = some (b, y) → rl_blk B b = some y ∧ y.2.1 = x
  | [], x, b, y, h => by cases h
  | z :: r, x, b, y, h => by
    unfold rl_own at h
    by_cases q : z.2.1 = x
    · rw [if_pos q] at h
      cases h
      rw [rl_blkc, if_pos rfl]
      exact ⟨rfl, q⟩
    · rw [if_neg q] at h
      have := rl_ownb h
      have hl := rl_blkl this.1
      rw [rl_blkc, if_neg (by omega)]
      exact this
def cb_kd (B : List rl_B) (q : Nat) : Nat := if q < 9 then 2 else ((rl_blk B (q - 9)).getD (0, -1, 0, 0, [])).1
theorem cb_nml {B : List rl_B} {x : Int32} {q : Nat} (h : cb_nm B x = some q) : q < 9 + B.length := by
  unfold cb_nm at h
  cases e : rl_sb x with
  | some s =>
    rw [e] at h
    cases h
    unfold rl_sb at e
    by_cases w : 41 ≤ x.toInt ∧ x.toInt < 50
    · rw [if_pos w] at e
      cases e
      have := cl_i x (by omega)
      omega
    · rw [if_neg w] at e; cases e
  | none =>
    rw [e] at h
    dsimp only at h
    cases f : rl_own B x with
    | none => rw [f] at h; cases h
    | some y =>
      rw [f] at h
      cases h
      have := rl_blkl (rl_ownb (b := y.1) (y := y.2) f).1
      show 9 + y.1 < _
      omega
theorem cb_nmt {B : List rl_B} {x : Int32} (hx : (rl_hd B).2.1 ≠ x) : cb_nm B x = cb_nm B.tail x := by
  cases B with
  | nil => rfl
  | cons y r =>
    unfold cb_nm
    have e : rl_own (y :: r) x = rl_own r x := by
      conv => lhs; unfold rl_own
      exact if_neg hx
    rw [e]
    rfl
theorem cb_nmh {B : List rl_B} {x : Int32} (hB : B ≠ []) (hf : cb_nm B.tail (rl_hd B).2.1 = none) (hx : (rl_hd B).2.1 = x) : cb_nm B x = some (8 + B.length) := by
  cases B with
  | nil => exact absurd rfl hB
  | cons y r =>
    have hx : y.2.1 = x := hx
    have hf : cb_nm r y.2.1 = none := hf
    rw [hx] at hf
    unfold cb_nm at hf ⊢
    cases e : rl_sb x with
    | some s => rw [e] at hf; cases hf
    | none =>
      dsimp only
      unfold rl_own
      rw [if_pos hx, Option.map_some, List.length_cons]
      congr 1
      show 9 + r.length = _
      omega
theorem cb_kdk {l : List pg_N} {NN q : Nat} {B : List rl_B} {σ : pm_S} (h : cb_I l NN B σ) (hq : q < 9 + B.length) : σ.2.2 28 q = nI (cb_kd B q) := by
  unfold cb_kd
  by_cases w : q < 9
  · rw [if_pos w]; exact (h.2.2.2.1 q w).1
  · rw [if_neg w]
    have hl : q - 9 < B.reverse.length := by rw [List.length_reverse]; omega
    have eb : rl_blk B (q - 9) = some (B.reverse[q - 9]'hl) := List.getElem?_eq_getElem hl
    have := (h.2.2.2.2.1 _ _ eb).1
    rw [show 9 + (q - 9) = q by omega] at this
    rw [eb]
    exact this
theorem d114_0 : decode prog_2_method_7_code 0 = .ok (.aload_n 0, 1) := by decide +kernel
theorem d114_1 : decode prog_2_method_7_code 1 = .ok (.getfield 49, 3) := by decide +kernel
theorem d114_4 : decode prog_2_method_7_code 4 = .ok (.ireturn, 1) := by decide +kernel
theorem m114 : pm_m 114 = some (⟨"TypeRules$Blocks", "hasProgram", "()Z"⟩, prog_2_method_7_code, 1, (some FieldType.boolean), 5, 0, 6) := rfl
theorem d115_0 : decode prog_2_method_9_code 0 = .ok (.iload_n 1, 1) := by decide +kernel
theorem d115_1 : decode prog_2_method_9_code 1 = .ok (.ifCond .lt 21, 3) := by decide +kernel
theorem d115_4 : decode prog_2_method_9_code 4 = .ok (.iload_n 1, 1) := by decide +kernel
theorem d115_5 : decode prog_2_method_9_code 5 = .ok (.aload_n 0, 1) := by decide +kernel
theorem d115_6 : decode prog_2_method_9_code 6 = .ok (.getfield 20, 3) := by decide +kernel
theorem d115_9 : decode prog_2_method_9_code 9 = .ok (.arraylength, 1) := by decide +kernel
theorem d115_10 : decode prog_2_method_9_code 10 = .ok (.if_icmp .ge 12, 3) := by decide +kernel
theorem d115_13 : decode prog_2_method_9_code 13 = .ok (.aload_n 0, 1) := by decide +kernel
theorem d115_14 : decode prog_2_method_9_code 14 = .ok (.getfield 20, 3) := by decide +kernel
theorem d115_17 : decode prog_2_method_9_code 17 = .ok (.iload_n 1, 1) := by decide +kernel
theorem d115_18 : decode prog_2_method_9_code 18 = .ok (.iaload, 1) := by decide +kernel
theorem d115_19 : decode prog_2_method_9_code 19 = .ok (.goto 4, 3) := by decide +kernel
theorem d115_22 : decode prog_2_method_9_code 22 = .ok (.iconst (-1), 1) := by decide +kernel
theorem d115_23 : decode prog_2_method_9_code 23 = .ok (.ireturn, 1) := by decide +kernel
theorem m115 : pm_m 115 = some (⟨"TypeRules$Blocks", "named", "(I)I"⟩, prog_2_method_9_code, 2, (some FieldType.int), 5, 1, 6) := rfl
theorem d116_0 : decode prog_2_method_5_code 0 = .ok (.aload_n 0, 1) := by decide +kernel
theorem d116_1 : decode prog_2_method_5_code 1 = .ok (.getfield 42, 3) := by decide +kernel
theorem d116_4 : decode prog_2_method_5_code 4 = .ok (.iconst 1, 1) := by decide +kernel
theorem d116_5 : decode prog_2_method_5_code 5 = .ok (.isub, 1) := by decide +kernel
theorem d116_6 : decode prog_2_method_5_code 6 = .ok (.ireturn, 1) := by decide +kernel
theorem m116 : pm_m 116 = some (⟨"TypeRules$Blocks", "current", "()I"⟩, prog_2_method_5_code, 1, (some FieldType.int), 5, 0, 6) := rfl
theorem d119_0 : decode prog_2_method_8_code 0 = .ok (.aload_n 0, 1) := by decide +kernel
theorem d119_1 : decode prog_2_method_8_code 1 = .ok (.getfield 46, 3) := by decide +kernel
theorem d119_4 : decode prog_2_method_8_code 4 = .ok (.ireturn, 1) := by decide +kernel
theorem m119 : pm_m 119 = some (⟨"TypeRules$Blocks", "allCells", "()I"⟩, prog_2_method_8_code, 1, (some FieldType.int), 5, 0, 6) := rfl
theorem d122_0 : decode prog_2_method_10_code 0 = .ok (.iload_n 1, 1) := by decide +kernel
theorem d122_1 : decode prog_2_method_10_code 1 = .ok (.ifCond .lt 21, 3) := by decide +kernel
theorem d122_4 : decode prog_2_method_10_code 4 = .ok (.iload_n 1, 1) := by decide +kernel
theorem d122_5 : decode prog_2_method_10_code 5 = .ok (.aload_n 0, 1) := by decide +kernel
theorem d122_6 : decode prog_2_method_10_code 6 = .ok (.getfield 20, 3) := by decide +kernel
theorem d122_9 : decode prog_2_method_10_code 9 = .ok (.arraylength, 1) := by decide +kernel
theorem d122_10 : decode prog_2_method_10_code 10 = .ok (.if_icmp .ge 12, 3) := by decide +kernel
theorem d122_13 : decode prog_2_method_10_code 13 = .ok (.aload_n 0, 1) := by decide +kernel
theorem d122_14 : decode prog_2_method_10_code 14 = .ok (.getfield 20, 3) := by decide +kernel
theorem d122_17 : decode prog_2_method_10_code 17 = .ok (.iload_n 1, 1) := by decide +kernel
theorem d122_18 : decode prog_2_method_10_code 18 = .ok (.iaload, 1) := by decide +kernel
theorem d122_19 : decode prog_2_method_10_code 19 = .ok (.goto 4, 3) := by decide +kernel
theorem d122_22 : decode prog_2_method_10_code 22 = .ok (.iconst (-1), 1) := by decide +kernel
theorem d122_23 : decode prog_2_method_10_code 23 = .ok (.istore_n 3, 1) := by decide +kernel
theorem d122_24 : decode prog_2_method_10_code 24 = .ok (.iload_n 3, 1) := by decide +kernel
theorem d122_25 : decode prog_2_method_10_code 25 = .ok (.ifCond .lt 27, 3) := by decide +kernel
theorem d122_28 : decode prog_2_method_10_code 28 = .ok (.iload_n 3, 1) := by decide +kernel
theorem d122_29 : decode prog_2_method_10_code 29 = .ok (.aload_n 0, 1) := by decide +kernel
theorem d122_30 : decode prog_2_method_10_code 30 = .ok (.getfield 42, 3) := by decide +kernel
theorem d122_33 : decode prog_2_method_10_code 33 = .ok (.iconst 1, 1) := by decide +kernel
theorem d122_34 : decode prog_2_method_10_code 34 = .ok (.isub, 1) := by decide +kernel
theorem d122_35 : decode prog_2_method_10_code 35 = .ok (.if_icmp .ge 17, 3) := by decide +kernel
theorem d122_38 : decode prog_2_method_10_code 38 = .ok (.aload_n 0, 1) := by decide +kernel
theorem d122_39 : decode prog_2_method_10_code 39 = .ok (.getfield 24, 3) := by decide +kernel
theorem d122_42 : decode prog_2_method_10_code 42 = .ok (.iload_n 3, 1) := by decide +kernel
theorem d122_43 : decode prog_2_method_10_code 43 = .ok (.iaload, 1) := by decide +kernel
theorem d122_44 : decode prog_2_method_10_code 44 = .ok (.iload_n 2, 1) := by decide +kernel
theorem d122_45 : decode prog_2_method_10_code 45 = .ok (.if_icmp .ne 7, 3) := by decide +kernel
theorem d122_48 : decode prog_2_method_10_code 48 = .ok (.iload_n 3, 1) := by decide +kernel
theorem d122_49 : decode prog_2_method_10_code 49 = .ok (.goto 4, 3) := by decide +kernel
theorem d122_52 : decode prog_2_method_10_code 52 = .ok (.iconst (-1), 1) := by decide +kernel
theorem d122_53 : decode prog_2_method_10_code 53 = .ok (.ireturn, 1) := by decide +kernel
theorem m122 : pm_m 122 = some (⟨"TypeRules$Blocks", "namedBefore", "(II)I"⟩, prog_2_method_10_code, 4, (some FieldType.int), 5, 2, 6) := rfl
theorem d124_0 : decode prog_2_method_16_code 0 = .ok (.iload_n 1, 1) := by decide +kernel
theorem d124_1 : decode prog_2_method_16_code 1 = .ok (.ifCond .lt 25, 3) := by decide +kernel
theorem d124_4 : decode prog_2_method_16_code 4 = .ok (.iload_n 1, 1) := by decide +kernel
theorem d124_5 : decode prog_2_method_16_code 5 = .ok (.aload_n 0, 1) := by decide +kernel
theorem d124_6 : decode prog_2_method_16_code 6 = .ok (.getfield 42, 3) := by decide +kernel
theorem d124_9 : decode prog_2_method_16_code 9 = .ok (.if_icmp .ge 17, 3) := by decide +kernel
theorem d124_12 : decode prog_2_method_16_code 12 = .ok (.iload_n 2, 1) := by decide +kernel
theorem d124_13 : decode prog_2_method_16_code 13 = .ok (.ifCond .lt 13, 3) := by decide +kernel
theorem d124_16 : decode prog_2_method_16_code 16 = .ok (.iload_n 2, 1) := by decide +kernel
theorem d124_17 : decode prog_2_method_16_code 17 = .ok (.bipush 8, 2) := by decide +kernel
theorem d124_19 : decode prog_2_method_16_code 19 = .ok (.if_icmp .ge 7, 3) := by decide +kernel
theorem d124_22 : decode prog_2_method_16_code 22 = .ok (.iconst 1, 1) := by decide +kernel
theorem d124_23 : decode prog_2_method_16_code 23 = .ok (.goto 4, 3) := by decide +kernel
theorem d124_26 : decode prog_2_method_16_code 26 = .ok (.iconst 0, 1) := by decide +kernel
theorem d124_27 : decode prog_2_method_16_code 27 = .ok (.istore_n 3, 1) := by decide +kernel
theorem d124_28 : decode prog_2_method_16_code 28 = .ok (.iload_n 3, 1) := by decide +kernel
theorem d124_29 : decode prog_2_method_16_code 29 = .ok (.ifCond .eq 17, 3) := by decide +kernel
theorem d124_32 : decode prog_2_method_16_code 32 = .ok (.aload_n 0, 1) := by decide +kernel
theorem d124_33 : decode prog_2_method_16_code 33 = .ok (.getfield 39, 3) := by decide +kernel
theorem d124_36 : decode prog_2_method_16_code 36 = .ok (.iload_n 1, 1) := by decide +kernel
theorem d124_37 : decode prog_2_method_16_code 37 = .ok (.bipush 8, 2) := by decide +kernel
theorem d124_39 : decode prog_2_method_16_code 39 = .ok (.imul, 1) := by decide +kernel
theorem d124_40 : decode prog_2_method_16_code 40 = .ok (.iload_n 2, 1) := by decide +kernel
theorem d124_41 : decode prog_2_method_16_code 41 = .ok (.iadd, 1) := by decide +kernel
theorem d124_42 : decode prog_2_method_16_code 42 = .ok (.iaload, 1) := by decide +kernel
theorem d124_43 : decode prog_2_method_16_code 43 = .ok (.goto 4, 3) := by decide +kernel
theorem d124_46 : decode prog_2_method_16_code 46 = .ok (.iconst (-1), 1) := by decide +kernel
theorem d124_47 : decode prog_2_method_16_code 47 = .ok (.ireturn, 1) := by decide +kernel
theorem m124 : pm_m 124 = some (⟨"TypeRules$Blocks", "inputTypeOf", "(II)I"⟩, prog_2_method_16_code, 4, (some FieldType.int), 5, 2, 6) := rfl
theorem d113_0 : decode prog_2_method_17_code 0 = .ok (.aload_n 0, 1) := by decide +kernel
theorem d113_1 : decode prog_2_method_17_code 1 = .ok (.getfield 42, 3) := by decide +kernel
theorem d113_4 : decode prog_2_method_17_code 4 = .ok (.iconst 1, 1) := by decide +kernel
theorem d113_5 : decode prog_2_method_17_code 5 = .ok (.isub, 1) := by decide +kernel
theorem d113_6 : decode prog_2_method_17_code 6 = .ok (.istore_n 2, 1) := by decide +kernel
theorem d113_7 : decode prog_2_method_17_code 7 = .ok (.iload_n 2, 1) := by decide +kernel
theorem d113_8 : decode prog_2_method_17_code 8 = .ok (.ifCond .ge 5, 3) := by decide +kernel
theorem d113_11 : decode prog_2_method_17_code 11 = .ok (.iconst (-1), 1) := by decide +kernel
theorem d113_12 : decode prog_2_method_17_code 12 = .ok (.ireturn, 1) := by decide +kernel
theorem d113_13 : decode prog_2_method_17_code 13 = .ok (.aload_n 0, 1) := by decide +kernel
theorem d113_14 : decode prog_2_method_17_code 14 = .ok (.getfield 27, 3) := by decide +kernel
theorem d113_17 : decode prog_2_method_17_code 17 = .ok (.iload_n 2, 1) := by decide +kernel
theorem d113_18 : decode prog_2_method_17_code 18 = .ok (.iaload, 1) := by decide +kernel
theorem d113_19 : decode prog_2_method_17_code 19 = .ok (.istore_n 3, 1) := by decide +kernel
theorem d113_20 : decode prog_2_method_17_code 20 = .ok (.aload_n 0, 1) := by decide +kernel
theorem d113_21 : decode prog_2_method_17_code 21 = .ok (.getfield 27, 3) := by decide +kernel
theorem d113_24 : decode prog_2_method_17_code 24 = .ok (.iload_n 2, 1) := by decide +kernel
theorem d113_25 : decode prog_2_method_17_code 25 = .ok (.iload_n 3, 1) := by decide +kernel
theorem d113_26 : decode prog_2_method_17_code 26 = .ok (.iload_n 1, 1) := by decide +kernel
theorem d113_27 : decode prog_2_method_17_code 27 = .ok (.iadd, 1) := by decide +kernel
theorem d113_28 : decode prog_2_method_17_code 28 = .ok (.iastore, 1) := by decide +kernel
theorem d113_29 : decode prog_2_method_17_code 29 = .ok (.iload_n 3, 1) := by decide +kernel
theorem d113_30 : decode prog_2_method_17_code 30 = .ok (.ireturn, 1) := by decide +kernel
theorem m113 : pm_m 113 = some (⟨"TypeRules$Blocks", "takeCells", "(I)I"⟩, prog_2_method_17_code, 4, (some FieldType.int), 5, 1, 6) := rfl
theorem d123_0 : decode prog_2_method_18_code 0 = .ok (.aload_n 0, 1) := by decide +kernel
theorem d123_1 : decode prog_2_method_18_code 1 = .ok (.getfield 42, 3) := by decide +kernel
theorem d123_4 : decode prog_2_method_18_code 4 = .ok (.iconst 1, 1) := by decide +kernel
theorem d123_5 : decode prog_2_method_18_code 5 = .ok (.isub, 1) := by decide +kernel
theorem d123_6 : decode prog_2_method_18_code 6 = .ok (.istore_n 2, 1) := by decide +kernel
theorem d123_7 : decode prog_2_method_18_code 7 = .ok (.iload_n 2, 1) := by decide +kernel
theorem d123_8 : decode prog_2_method_18_code 8 = .ok (.ifCond .ge 4, 3) := by decide +kernel
theorem d123_11 : decode prog_2_method_18_code 11 = .ok (.return_, 1) := by decide +kernel
theorem d123_12 : decode prog_2_method_18_code 12 = .ok (.aload_n 0, 1) := by decide +kernel
theorem d123_13 : decode prog_2_method_18_code 13 = .ok (.getfield 36, 3) := by decide +kernel
theorem d123_16 : decode prog_2_method_18_code 16 = .ok (.iload_n 2, 1) := by decide +kernel
theorem d123_17 : decode prog_2_method_18_code 17 = .ok (.iaload, 1) := by decide +kernel
theorem d123_18 : decode prog_2_method_18_code 18 = .ok (.bipush 8, 2) := by decide +kernel
theorem d123_20 : decode prog_2_method_18_code 20 = .ok (.if_icmp .ge 20, 3) := by decide +kernel
theorem d123_23 : decode prog_2_method_18_code 23 = .ok (.aload_n 0, 1) := by decide +kernel
theorem d123_24 : decode prog_2_method_18_code 24 = .ok (.getfield 39, 3) := by decide +kernel
theorem d123_27 : decode prog_2_method_18_code 27 = .ok (.iload_n 2, 1) := by decide +kernel
theorem d123_28 : decode prog_2_method_18_code 28 = .ok (.bipush 8, 2) := by decide +kernel
theorem d123_30 : decode prog_2_method_18_code 30 = .ok (.imul, 1) := by decide +kernel
theorem d123_31 : decode prog_2_method_18_code 31 = .ok (.aload_n 0, 1) := by decide +kernel
theorem d123_32 : decode prog_2_method_18_code 32 = .ok (.getfield 36, 3) := by decide +kernel
theorem d123_35 : decode prog_2_method_18_code 35 = .ok (.iload_n 2, 1) := by decide +kernel
theorem d123_36 : decode prog_2_method_18_code 36 = .ok (.iaload, 1) := by decide +kernel
theorem d123_37 : decode prog_2_method_18_code 37 = .ok (.iadd, 1) := by decide +kernel
theorem d123_38 : decode prog_2_method_18_code 38 = .ok (.iload_n 1, 1) := by decide +kernel
theorem d123_39 : decode prog_2_method_18_code 39 = .ok (.iastore, 1) := by decide +kernel
theorem d123_40 : decode prog_2_method_18_code 40 = .ok (.aload_n 0, 1) := by decide +kernel
theorem d123_41 : decode prog_2_method_18_code 41 = .ok (.getfield 36, 3) := by decide +kernel
theorem d123_44 : decode prog_2_method_18_code 44 = .ok (.iload_n 2, 1) := by decide +kernel
theorem d123_45 : decode prog_2_method_18_code 45 = .ok (.dup2, 1) := by decide +kernel
theorem d123_46 : decode prog_2_method_18_code 46 = .ok (.iaload, 1) := by decide +kernel
theorem d123_47 : decode prog_2_method_18_code 47 = .ok (.iconst 1, 1) := by decide +kernel
theorem d123_48 : decode prog_2_method_18_code 48 = .ok (.iadd, 1) := by decide +kernel
theorem d123_49 : decode prog_2_method_18_code 49 = .ok (.iastore, 1) := by decide +kernel
theorem d123_50 : decode prog_2_method_18_code 50 = .ok (.return_, 1) := by decide +kernel
theorem m123 : pm_m 123 = some (⟨"TypeRules$Blocks", "addInput", "(I)V"⟩, prog_2_method_18_code, 3, none, 5, 1, 6) := rfl
theorem cb114 {d : Nat} {σ : pm_S} {Q : Option Value → pm_S → Prop} {l : List pg_N} {NN : Nat} {B : List rl_B} (h : cb_I l NN B σ) (hQ : Q (some (.int (b2 (decide ((rl_hd B).1 = 3))))) σ) : pm_call pm_Y0 (d + 1) 114 [.ref 5] σ Q := by
  refine wq_m m114 (Nat.le_of_ble_eq_true rfl) (by decide) rfl ?_
  refine wq_l 1 d114_0 rfl rfl rfl rfl ?_
  refine wq_gf (ci := 5) (j := 10) (f := 0) (v := .int (b2 (decide ((rl_hd B).1 = 3)))) 4 d114_1 rfl rfl rfl (congrArg Value.int (h.2.2.1)) rfl ?_
  refine wq_ri d114_4 (b2_nar _) ?_
  exact hQ
theorem cb115 {d : Nat} {σ : pm_S} {Q : Option Value → pm_S → Prop} {l : List pg_N} {NN : Nat} {B : List rl_B} {x : Int32} (hN : NN ≤ 4171) (h : cb_I l NN B σ) (hx : 0 ≤ x.toInt ∧ x.toInt < NN) (hQ : Q (some (.int (hp_oi (cb_nm B x)))) σ) : pm_call pm_Y0 (d + 1) 115 [.ref 5, .int x] σ Q := by
  have hn := h.2.2.2.2.2 x.toNatClampNeg (by have := cl_i x hx.1; omega)
  rw [nI_cl x hx.1] at hn
  refine wq_m m115 (Nat.le_of_ble_eq_true rfl) (by decide) rfl ?_
  refine wq_l 1 d115_0 rfl rfl rfl rfl ?_
  refine wq_b 22 4 d115_1 rfl (by decide) rfl (fun c1 => absurd c1 (by rw [i_lt]; show ¬ _ < (0 : Int); omega)) (fun c1 => ?_)
  refine wq_l 5 d115_4 rfl rfl rfl rfl ?_
  refine wq_l 6 d115_5 rfl rfl rfl rfl ?_
  refine wq_gr (ci := 5) (j := 1) (q := 27) 9 d115_6 rfl rfl rfl rfl ?_
  refine wq_len 10 d115_9 rfl rfl rfl ?_
  refine wq_b 22 13 d115_10 rfl (by decide) rfl (fun c10 => absurd c10 (by rw [i_le]; show ¬ (4171 : Int) ≤ _; omega)) (fun c10 => ?_)
  refine wq_l 14 d115_13 rfl rfl rfl rfl ?_
  refine wq_gr (ci := 5) (j := 1) (q := 27) 17 d115_14 rfl rfl rfl rfl ?_
  refine wq_l 18 d115_17 rfl rfl rfl rfl ?_
  refine wq_al 19 d115_18 rfl rfl rfl (vp_in_iff.mpr (by omega)) ?_
  refine wq_g 23 d115_19 (by decide) ?_
  refine wq_ri d115_23 (rfl) ?_
  rw [hn]; exact hQ
theorem cb116 {d : Nat} {σ : pm_S} {Q : Option Value → pm_S → Prop} {l : List pg_N} {NN : Nat} {B : List rl_B} (h : cb_I l NN B σ) (hB : B ≠ []) (hQ : Q (some (.int (nI (8 + B.length)))) σ) : pm_call pm_Y0 (d + 1) 116 [.ref 5] σ Q := by
  have e : nI (9 + B.length) - 1 = nI (8 + B.length) := by rw [show 9 + B.length = (8 + B.length) + 1 by omega]; exact nI_pred _
  refine wq_m m116 (Nat.le_of_ble_eq_true rfl) (by decide) rfl ?_
  refine wq_l 1 d116_0 rfl rfl rfl rfl ?_
  refine wq_gf (ci := 5) (j := 8) (f := 0) (v := .int (nI (9 + B.length))) 4 d116_1 rfl rfl rfl (congrArg Value.int (h.2.1)) rfl ?_
  refine wq_k 5 1 d116_4 (by decide) rfl ?_
  refine wq_a 6 d116_5 rfl rfl ?_
  refine wq_ri d116_6 (rfl) ?_
  rw [e]; exact hQ
theorem cb119 {d : Nat} {σ : pm_S} {Q : Option Value → pm_S → Prop} (hQ : Q (some (.int (σ.1 5 9))) σ) : pm_call pm_Y0 (d + 1) 119 [.ref 5] σ Q := by
  refine wq_m m119 (Nat.le_of_ble_eq_true rfl) (by decide) rfl ?_
  refine wq_l 1 d119_0 rfl rfl rfl rfl ?_
  refine wq_gi (ci := 5) (j := 9) 4 d119_1 rfl rfl rfl rfl ?_
  refine wq_ri d119_4 (rfl) ?_
  exact hQ
theorem cb118 {d : Nat} {σ : pm_S} {Q : Option Value → pm_S → Prop} {l : List pg_N} {NN : Nat} {B : List rl_B} {b : Nat} {y : rl_B} (h : cb_I l NN B σ) (hb : rl_blk B b = some y) (hQ : Q (some (.int (nI y.2.2.2.1))) σ) : pm_call pm_Y0 (d + 1) 118 [.ref 5, .int (nI (9 + b))] σ Q := by
  obtain ⟨e1, e2, e3⟩ := cb_in h (show 9 + b < 9 + B.length by have := rl_blkl hb; omega)
  refine sp118 (cb_c h) (fun _ _ => ?_) (fun q => absurd ⟨e2, e3⟩ q)
  rw [e1, (h.2.2.2.2.1 b y hb).2.1]
  exact hQ
theorem cb125 {d : Nat} {σ : pm_S} {Q : Option Value → pm_S → Prop} {l : List pg_N} {NN : Nat} {B : List rl_B} {b : Nat} {y : rl_B} (h : cb_I l NN B σ) (hb : rl_blk B b = some y) (hQ : Q (some (.int (if y.1 = 1 then rl_v l (y.2.2.1 + 1) else -1))) σ) : pm_call pm_Y0 (d + 1) 125 [.ref 5, .int (nI (9 + b))] σ Q := by
  obtain ⟨e1, e2, e3⟩ := cb_in h (show 9 + b < 9 + B.length by have := rl_blkl hb; omega)
  refine sp125 (cb_c h) (fun _ _ => ?_) (fun q => absurd ⟨e2, e3⟩ q)
  rw [e1, (h.2.2.2.2.1 b y hb).2.2.2.1]
  exact hQ
theorem cb120 {d : Nat} {σ : pm_S} {Q : Option Value → pm_S → Prop} {l : List pg_N} {NN : Nat} {B : List rl_B} {b : Nat} {y : rl_B} (h : cb_I l NN B σ) (hb : rl_blk B b = some y) (hQ : Q (some (.int (nI (rl_nin y)))) σ) : pm_call pm_Y0 (d + 1) 120 [.ref 5, .int (nI (9 + b))] σ Q := by
  obtain ⟨e1, e2, e3⟩ := cb_in h (show 9 + b < 9 + B.length by have := rl_blkl hb; omega)
  refine sp120 (cb_c h) (fun _ _ => ?_) (fun q => absurd ⟨e2, e3⟩ q)
  rw [e1, (h.2.2.2.2.1 b y hb).2.2.2.2.1]
  exact hQ
theorem cb121 {d : Nat} {σ : pm_S} {Q : Option Value → pm_S → Prop} {l : List pg_N} {NN : Nat} {B : List rl_B} {b : Nat} {y : rl_B} (h : cb_I l NN B σ) (hb : rl_blk B b = some y) (hQ : Q (some (.int (nI y.1))) σ) : pm_call pm_Y0 (d + 1) 121 [.ref 5, .int (nI (9 + b))] σ Q := by
  obtain ⟨e1, e2, e3⟩ := cb_in h (show 9 + b < 9 + B.length by have := rl_blkl hb; omega)
  refine sp121 (cb_c h) (fun _ _ => ?_) (fun q => absurd ⟨e2, e3⟩ q)
  rw [e1, (h.2.2.2.2.1 b y hb).1]
  exact hQ
theorem cb118s {d : Nat} {σ : pm_S} {Q : Option Value → pm_S → Prop} {l : List pg_N} {NN : Nat} {B : List rl_B} {s : Nat} (h : cb_I l NN B σ) (hs : s < 9) (hQ : Q (some (.int (nI (rl_ssz s)))) σ) : pm_call pm_Y0 (d + 1) 118 [.ref 5, .int (nI s)] σ Q := by
  obtain ⟨e1, e2, e3⟩ := cb_in h (show s < 9 + B.length by omega)
  refine sp118 (cb_c h) (fun _ _ => ?_) (fun q => absurd ⟨e2, e3⟩ q)
  rw [e1, (h.2.2.2.1 s hs).2]
  exact hQ
theorem cb124 {d : Nat} {σ : pm_S} {Q : Option Value → pm_S → Prop} {l : List pg_N} {NN : Nat} {B : List rl_B} {b j : Nat} {y : rl_B} {t : Int32} (h : cb_I l NN B σ) (hb : rl_blk B b = some y) (hj : j < 8) (ht : (rl_ins y)[j]? = some t) (hQ : Q (some (.int t)) σ) : pm_call pm_Y0 (d + 1) 124 [.ref 5, .int (nI (9 + b)), .int (nI j)] σ Q := by
  have hl := rl_blkl hb
  have h1 := h.1
  obtain ⟨e1, e2, e3⟩ := cb_in h (show 9 + b < 9 + B.length by omega)
  have eb := nI_toInt (n := 9 + b) (by omega)
  have ej := nI_toInt (n := j) (by omega)
  have eB := nI_toInt (n := 9 + B.length) (by omega)
  have em : nI (9 + b) * 8 + nI j = nI ((9 + b) * 8 + j) := (congrArg (· + _) (Int32.ofNat_mul (9 + b) 8).symm).trans (nI_add _ _)
  have ei := nI_toInt (n := (9 + b) * 8 + j) (by omega)
  have ec := nI_clamp (n := (9 + b) * 8 + j) (by omega)
  have ev := (h.2.2.2.2.1 b y hb).2.2.2.2.2 j t hj ht
  refine wq_m m124 (Nat.le_of_ble_eq_true rfl) (by decide) rfl ?_
  refine wq_l 1 d124_0 rfl rfl rfl rfl ?_
  refine wq_b 26 4 d124_1 rfl (by decide) rfl (fun c1 => absurd c1 (Int32.not_lt.mpr e2)) (fun c1 => ?_)
  refine wq_l 5 d124_4 rfl rfl rfl rfl ?_
  refine wq_l 6 d124_5 rfl rfl rfl rfl ?_
  refine wq_gf (ci := 5) (j := 8) (f := 0) (v := .int (nI (9 + B.length))) 9 d124_6 rfl rfl rfl (congrArg Value.int (h.2.1)) rfl ?_
  refine wq_b 26 12 d124_9 rfl (by decide) rfl (fun c9 => absurd c9 (by rw [i_le, eb, eB]; omega)) (fun c9 => ?_)
  refine wq_l 13 d124_12 rfl rfl rfl rfl ?_
  refine wq_b 26 16 d124_13 rfl (by decide) rfl (fun c13 => absurd c13 (by rw [i_lt, ej]; show ¬ (j : Int) < 0; omega)) (fun c13 => ?_)
  refine wq_l 17 d124_16 rfl rfl rfl rfl ?_
  refine wq_k 19 8 d124_17 (by decide) rfl ?_
  refine wq_b 26 22 d124_19 rfl (by decide) rfl (fun c19 => absurd c19 (by rw [i_le, ej]; show ¬ (8 : Int) ≤ j; omega)) (fun c19 => ?_)
  refine wq_k 23 1 d124_22 (by decide) rfl ?_
  refine wq_g 27 d124_23 (by decide) ?_
  refine wq_s 28 d124_27 rfl rfl (Nat.le_of_ble_eq_true rfl) rfl rfl ?_
  refine wq_l 29 d124_28 rfl rfl rfl rfl ?_
  refine wq_b 46 32 d124_29 rfl (by decide) rfl (fun c29 => absurd c29 (by decide)) (fun c29 => ?_)
  refine wq_l 33 d124_32 rfl rfl rfl rfl ?_
  refine wq_gr (ci := 5) (j := 7) (q := 33) 36 d124_33 rfl rfl rfl rfl ?_
  refine wq_l 37 d124_36 rfl rfl rfl rfl ?_
  refine wq_k 39 8 d124_37 (by decide) rfl ?_
  refine wq_a 40 d124_39 rfl rfl ?_
  refine wq_l 41 d124_40 rfl rfl rfl rfl ?_
  refine wq_a 42 d124_41 rfl rfl ?_
  rw [em]
  refine wq_al 43 d124_42 rfl rfl rfl (vp_in_iff.mpr (by rw [ei]; omega)) ?_
  refine wq_g 47 d124_43 (by decide) ?_
  refine wq_ri d124_47 (rfl) ?_
  rw [ec, ev]; exact hQ
def cb_nb (B : List rl_B) (x : Int32) (k : Nat) : Option Nat := match cb_nm B.tail x with
  | none => none
  | some q => if cb_kd B q = k then some q else none
theorem cb122 {d : Nat} {σ : pm_S} {Q : Option Value → pm_S → Prop} {l : List pg_N} {NN : Nat} {B : List rl_B} {x : Int32} {k : Nat} (hN : NN ≤ 4171) (hk : k < 2 ^ 30) (hkd : ∀ q, cb_kd B q < 2 ^ 30) (h : cb_I l NN B σ) (hB : B ≠ []) (hf : cb_nm B.tail (rl_hd B).2.1 = none) (hx : 0 ≤ x.toInt ∧ x.toInt < NN) (hQ : Q (some (.int (hp_oi (cb_nb B x k)))) σ) : pm_call pm_Y0 (d + 1) 122 [.ref 5, .int x, .int (nI k)] σ Q := by
  have hn := h.2.2.2.2.2 x.toNatClampNeg (by have := cl_i x hx.1; omega)
  rw [nI_cl x hx.1] at hn
  have h1 := h.1
  have hl : 0 < B.length := by cases B with | nil => exact absurd rfl hB | cons y r => rw [List.length_cons]; omega
  have e : nI (9 + B.length) - 1 = nI (8 + B.length) := by rw [show 9 + B.length = (8 + B.length) + 1 by omega]; exact nI_pred _
  have e8 := nI_toInt (n := 8 + B.length) (by omega)
  unfold cb_nb at hQ
  by_cases hd : (rl_hd B).2.1 = x
  · have c1 := cb_nmh hB hf hd
    rw [c1] at hn
    rw [← hd, hf] at hQ
    refine wq_m m122 (Nat.le_of_ble_eq_true rfl) (by decide) rfl ?_
    refine wq_l 1 d122_0 rfl rfl rfl rfl ?_
    refine wq_b 22 4 d122_1 rfl (by decide) rfl (fun c1 => absurd c1 (by rw [i_lt]; show ¬ _ < (0 : Int); omega)) (fun c1 => ?_)
    refine wq_l 5 d122_4 rfl rfl rfl rfl ?_
    refine wq_l 6 d122_5 rfl rfl rfl rfl ?_
    refine wq_gr (ci := 5) (j := 1) (q := 27) 9 d122_6 rfl rfl rfl rfl ?_
    refine wq_len 10 d122_9 rfl rfl rfl ?_
    refine wq_b 22 13 d122_10 rfl (by decide) rfl (fun c10 => absurd c10 (by rw [i_le]; show ¬ (4171 : Int) ≤ _; omega)) (fun c10 => ?_)
    refine wq_l 14 d122_13 rfl rfl rfl rfl ?_
    refine wq_gr (ci := 5) (j := 1) (q := 27) 17 d122_14 rfl rfl rfl rfl ?_
    refine wq_l 18 d122_17 rfl rfl rfl rfl ?_
    refine wq_al 19 d122_18 rfl rfl rfl (vp_in_iff.mpr (by omega)) ?_
    refine wq_g 23 d122_19 (by decide) ?_
    rw [hn]
    refine wq_s 24 d122_23 rfl rfl (Nat.le_of_ble_eq_true rfl) rfl rfl ?_
    refine wq_l 25 d122_24 rfl rfl rfl rfl ?_
    refine wq_b 52 28 d122_25 rfl (by decide) rfl (fun c25 => absurd c25 (by rw [i_lt]; show ¬ (nI (8 + B.length)).toInt < (0 : Int); rw [e8]; omega)) (fun c25 => ?_)
    refine wq_l 29 d122_28 rfl rfl rfl rfl ?_
    refine wq_l 30 d122_29 rfl rfl rfl rfl ?_
    refine wq_gf (ci := 5) (j := 8) (f := 0) (v := .int (nI (9 + B.length))) 33 d122_30 rfl rfl rfl (congrArg Value.int (h.2.1)) rfl ?_
    refine wq_k 34 1 d122_33 (by decide) rfl ?_
    refine wq_a 35 d122_34 rfl rfl ?_
    rw [e]
    refine wq_b 52 38 d122_35 rfl (by decide) rfl (fun c35 => ?_) (fun c35 => absurd (by rw [i_le]; show (nI (8 + B.length)).toInt ≤ (nI (8 + B.length)).toInt; omega) c35)
    refine wq_k 53 (-1) d122_52 (by decide) rfl ?_
    refine wq_ri d122_53 (rfl) ?_
    exact hQ
  · rw [cb_nmt hd] at hn
    cases hc : cb_nm B.tail x with
    | none =>
      rw [hc] at hn hQ
      refine wq_m m122 (Nat.le_of_ble_eq_true rfl) (by decide) rfl ?_
      refine wq_l 1 d122_0 rfl rfl rfl rfl ?_
      refine wq_b 22 4 d122_1 rfl (by decide) rfl (fun c1 => absurd c1 (by rw [i_lt]; show ¬ _ < (0 : Int); omega)) (fun c1 => ?_)
      refine wq_l 5 d122_4 rfl rfl rfl rfl ?_
      refine wq_l 6 d122_5 rfl rfl rfl rfl ?_
      refine wq_gr (ci := 5) (j := 1) (q := 27) 9 d122_6 rfl rfl rfl rfl ?_
      refine wq_len 10 d122_9 rfl rfl rfl ?_
      refine wq_b 22 13 d122_10 rfl (by decide) rfl (fun c10 => absurd c10 (by rw [i_le]; show ¬ (4171 : Int) ≤ _; omega)) (fun c10 => ?_)
      refine wq_l 14 d122_13 rfl rfl rfl rfl ?_
      refine wq_gr (ci := 5) (j := 1) (q := 27) 17 d122_14 rfl rfl rfl rfl ?_
      refine wq_l 18 d122_17 rfl rfl rfl rfl ?_
      refine wq_al 19 d122_18 rfl rfl rfl (vp_in_iff.mpr (by omega)) ?_
      refine wq_g 23 d122_19 (by decide) ?_
      rw [hn]
      refine wq_s 24 d122_23 rfl rfl (Nat.le_of_ble_eq_true rfl) rfl rfl ?_
      refine wq_l 25 d122_24 rfl rfl rfl rfl ?_
      refine wq_b 52 28 d122_25 rfl (by decide) rfl (fun c25 => ?_) (fun c25 => absurd (by decide) c25)
      refine wq_k 53 (-1) d122_52 (by decide) rfl ?_
      refine wq_ri d122_53 (rfl) ?_
      exact hQ
    | some q =>
      rw [hc] at hn hQ
      have hq : q < 8 + B.length := by
        have := cb_nml hc
        rw [List.length_tail] at this
        omega
      have eq := nI_toInt (n := q) (by omega)
      have ec : (hp_oi (some q)).toNatClampNeg = q := nI_clamp (by omega)
      have ek := cb_kdk h (show q < 9 + B.length by omega)
      dsimp only at hQ
      refine wq_m m122 (Nat.le_of_ble_eq_true rfl) (by decide) rfl ?_
      refine wq_l 1 d122_0 rfl rfl rfl rfl ?_
      refine wq_b 22 4 d122_1 rfl (by decide) rfl (fun c1 => absurd c1 (by rw [i_lt]; show ¬ _ < (0 : Int); omega)) (fun c1 => ?_)
      refine wq_l 5 d122_4 rfl rfl rfl rfl ?_
      refine wq_l 6 d122_5 rfl rfl rfl rfl ?_
      refine wq_gr (ci := 5) (j := 1) (q := 27) 9 d122_6 rfl rfl rfl rfl ?_
      refine wq_len 10 d122_9 rfl rfl rfl ?_
      refine wq_b 22 13 d122_10 rfl (by decide) rfl (fun c10 => absurd c10 (by rw [i_le]; show ¬ (4171 : Int) ≤ _; omega)) (fun c10 => ?_)
      refine wq_l 14 d122_13 rfl rfl rfl rfl ?_
      refine wq_gr (ci := 5) (j := 1) (q := 27) 17 d122_14 rfl rfl rfl rfl ?_
      refine wq_l 18 d122_17 rfl rfl rfl rfl ?_
      refine wq_al 19 d122_18 rfl rfl rfl (vp_in_iff.mpr (by omega)) ?_
      refine wq_g 23 d122_19 (by decide) ?_
      rw [hn]
      refine wq_s 24 d122_23 rfl rfl (Nat.le_of_ble_eq_true rfl) rfl rfl ?_
      refine wq_l 25 d122_24 rfl rfl rfl rfl ?_
      refine wq_b 52 28 d122_25 rfl (by decide) rfl (fun c25 => absurd c25 (by rw [i_lt]; show ¬ (nI q).toInt < (0 : Int); rw [eq]; omega)) (fun c25 => ?_)
      refine wq_l 29 d122_28 rfl rfl rfl rfl ?_
      refine wq_l 30 d122_29 rfl rfl rfl rfl ?_
      refine wq_gf (ci := 5) (j := 8) (f := 0) (v := .int (nI (9 + B.length))) 33 d122_30 rfl rfl rfl (congrArg Value.int (h.2.1)) rfl ?_
      refine wq_k 34 1 d122_33 (by decide) rfl ?_
      refine wq_a 35 d122_34 rfl rfl ?_
      rw [e]
      refine wq_b 52 38 d122_35 rfl (by decide) rfl (fun c35 => absurd c35 (by rw [i_le]; show ¬ (nI (8 + B.length)).toInt ≤ (nI q).toInt; rw [eq, e8]; omega)) (fun c35 => ?_)
      refine wq_l 39 d122_38 rfl rfl rfl rfl ?_
      refine wq_gr (ci := 5) (j := 2) (q := 28) 42 d122_39 rfl rfl rfl rfl ?_
      refine wq_l 43 d122_42 rfl rfl rfl rfl ?_
      refine wq_al 44 d122_43 rfl rfl rfl (vp_in_iff.mpr (by show 0 ≤ (nI q).toInt ∧ (nI q).toInt < _; rw [eq]; omega)) ?_
      rw [ec, ek]
      refine wq_l 45 d122_44 rfl rfl rfl rfl ?_
      refine wq_b 52 48 d122_45 rfl (by decide) rfl (fun c45 => ?_) (fun c45 => ?_)
      · -- pc 52
        refine wq_k 53 (-1) d122_52 (by decide) rfl ?_
        refine wq_ri d122_53 (rfl) ?_
        first | (rw [if_pos (hp_inj (hkd q |> fun z => by omega) (by omega) (Classical.not_not.mp c45))] at hQ; exact hQ) | (rw [if_neg (fun z => c45 (congrArg nI z))] at hQ; exact hQ)
      · -- pc 48
        refine wq_l 49 d122_48 rfl rfl rfl rfl ?_
        refine wq_g 53 d122_49 (by decide) ?_
        refine wq_ri d122_53 (rfl) ?_
        first | (rw [if_pos (hp_inj (hkd q |> fun z => by omega) (by omega) (Classical.not_not.mp c45))] at hQ; exact hQ) | (rw [if_neg (fun z => c45 (congrArg nI z))] at hQ; exact hQ)
