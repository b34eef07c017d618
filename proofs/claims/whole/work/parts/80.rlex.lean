/-! THE REFERENCE'S LEXER: bytes and numbers -/
def rs (σ : pm_S) (p : Nat) : pm_S := pm_pi σ 10 2 (nI p)
theorem pm_pp {σ : pm_S} {k j : Nat} {x y : Int32} : pm_pi (pm_pi σ k j x) k j y = pm_pi σ k j y := by
  unfold pm_pi
  refine Prod.ext ?_ rfl
  funext a b
  by_cases h : a = k <;> by_cases h' : b = j <;> simp [h, h']
theorem pm_same {σ : pm_S} {k j : Nat} {x : Int32} (h : σ.1 k j = x) : pm_pi σ k j x = σ := by
  unfold pm_pi
  refine Prod.ext ?_ rfl
  funext a b
  by_cases h1 : a = k <;> by_cases h2 : b = j <;> simp [h1, h2, ← h]
theorem rs_2 {σ : pm_S} {p : Nat} : (rs σ p).1 10 2 = nI p := rfl
theorem rs_p {σ : pm_S} {p q : Nat} : pm_pi (rs σ p) 10 2 (nI q) = rs σ q := pm_pp
theorem rs_id {σ : pm_S} {p : Nat} (h : σ.1 10 2 = nI p) : rs σ p = σ := pm_same h
/-- the reference's text -/
def rx_T (σ : pm_S) (t : Nat → Nat) (M : Nat) : Prop := σ.1 10 1 = nI M ∧ M ≤ 8192 ∧ (∀ i, σ.2.2 43 i = nI (t i)) ∧ ∀ i, t i < 256
theorem d205_0 : decode prog_14_method_7_code 0 = .ok (.aload_n 0, 1) := by decide +kernel
theorem d205_1 : decode prog_14_method_7_code 1 = .ok (.getfield 121, 3) := by decide +kernel
theorem d205_4 : decode prog_14_method_7_code 4 = .ok (.iload_n 1, 1) := by decide +kernel
theorem d205_5 : decode prog_14_method_7_code 5 = .ok (.iadd, 1) := by decide +kernel
theorem d205_6 : decode prog_14_method_7_code 6 = .ok (.aload_n 0, 1) := by decide +kernel
theorem d205_7 : decode prog_14_method_7_code 7 = .ok (.getfield 114, 3) := by decide +kernel
theorem d205_10 : decode prog_14_method_7_code 10 = .ok (.if_icmp .ge 17, 3) := by decide +kernel
theorem d205_13 : decode prog_14_method_7_code 13 = .ok (.aload_n 0, 1) := by decide +kernel
theorem d205_14 : decode prog_14_method_7_code 14 = .ok (.getfield 7, 3) := by decide +kernel
theorem d205_17 : decode prog_14_method_7_code 17 = .ok (.aload_n 0, 1) := by decide +kernel
theorem d205_18 : decode prog_14_method_7_code 18 = .ok (.getfield 121, 3) := by decide +kernel
theorem d205_21 : decode prog_14_method_7_code 21 = .ok (.iload_n 1, 1) := by decide +kernel
theorem d205_22 : decode prog_14_method_7_code 22 = .ok (.iadd, 1) := by decide +kernel
theorem d205_23 : decode prog_14_method_7_code 23 = .ok (.iaload, 1) := by decide +kernel
theorem d205_24 : decode prog_14_method_7_code 24 = .ok (.goto 4, 3) := by decide +kernel
theorem d205_27 : decode prog_14_method_7_code 27 = .ok (.iconst (-1), 1) := by decide +kernel
theorem d205_28 : decode prog_14_method_7_code 28 = .ok (.ireturn, 1) := by decide +kernel
theorem m205 : pm_m 205 = some (⟨"TypeRulesModel", "ahead", "(I)I"⟩, prog_14_method_7_code, 2, (some FieldType.int), 10, 1, 11) := rfl
theorem d206_0 : decode prog_14_method_12_code 0 = .ok (.aload_n 0, 1) := by decide +kernel
theorem d206_1 : decode prog_14_method_12_code 1 = .ok (.getfield 135, 3) := by decide +kernel
theorem d206_4 : decode prog_14_method_12_code 4 = .ok (.ifCond .ne 13, 3) := by decide +kernel
theorem d206_7 : decode prog_14_method_12_code 7 = .ok (.aload_n 0, 1) := by decide +kernel
theorem d206_8 : decode prog_14_method_12_code 8 = .ok (.iload_n 1, 1) := by decide +kernel
theorem d206_9 : decode prog_14_method_12_code 9 = .ok (.putfield 135, 3) := by decide +kernel
theorem d206_12 : decode prog_14_method_12_code 12 = .ok (.aload_n 0, 1) := by decide +kernel
theorem d206_13 : decode prog_14_method_12_code 13 = .ok (.iload_n 2, 1) := by decide +kernel
theorem d206_14 : decode prog_14_method_12_code 14 = .ok (.putfield 138, 3) := by decide +kernel
theorem d206_17 : decode prog_14_method_12_code 17 = .ok (.return_, 1) := by decide +kernel
theorem m206 : pm_m 206 = some (⟨"TypeRulesModel", "fail", "(II)V"⟩, prog_14_method_12_code, 3, none, 10, 2, 11) := rfl
theorem d209_0 : decode prog_14_method_16_code 0 = .ok (.iload_n 0, 1) := by decide +kernel
theorem d209_1 : decode prog_14_method_16_code 1 = .ok (.invokestatic 132, 3) := by decide +kernel
theorem d209_4 : decode prog_14_method_16_code 4 = .ok (.ifCond .eq 10, 3) := by decide +kernel
theorem d209_7 : decode prog_14_method_16_code 7 = .ok (.iload_n 0, 1) := by decide +kernel
theorem d209_8 : decode prog_14_method_16_code 8 = .ok (.bipush 48, 2) := by decide +kernel
theorem d209_10 : decode prog_14_method_16_code 10 = .ok (.isub, 1) := by decide +kernel
theorem d209_11 : decode prog_14_method_16_code 11 = .ok (.goto 33, 3) := by decide +kernel
theorem d209_14 : decode prog_14_method_16_code 14 = .ok (.iload_n 0, 1) := by decide +kernel
theorem d209_15 : decode prog_14_method_16_code 15 = .ok (.invokestatic 124, 3) := by decide +kernel
theorem d209_18 : decode prog_14_method_16_code 18 = .ok (.bipush 65, 2) := by decide +kernel
theorem d209_20 : decode prog_14_method_16_code 20 = .ok (.if_icmp .lt 22, 3) := by decide +kernel
theorem d209_23 : decode prog_14_method_16_code 23 = .ok (.iload_n 0, 1) := by decide +kernel
theorem d209_24 : decode prog_14_method_16_code 24 = .ok (.invokestatic 124, 3) := by decide +kernel
theorem d209_27 : decode prog_14_method_16_code 27 = .ok (.bipush 70, 2) := by decide +kernel
theorem d209_29 : decode prog_14_method_16_code 29 = .ok (.if_icmp .gt 13, 3) := by decide +kernel
theorem d209_32 : decode prog_14_method_16_code 32 = .ok (.iload_n 0, 1) := by decide +kernel
theorem d209_33 : decode prog_14_method_16_code 33 = .ok (.invokestatic 124, 3) := by decide +kernel
theorem d209_36 : decode prog_14_method_16_code 36 = .ok (.bipush 55, 2) := by decide +kernel
theorem d209_38 : decode prog_14_method_16_code 38 = .ok (.isub, 1) := by decide +kernel
theorem d209_39 : decode prog_14_method_16_code 39 = .ok (.goto 5, 3) := by decide +kernel
theorem d209_42 : decode prog_14_method_16_code 42 = .ok (.bipush 99, 2) := by decide +kernel
theorem d209_44 : decode prog_14_method_16_code 44 = .ok (.ireturn, 1) := by decide +kernel
theorem m209 : pm_m 209 = some (⟨"TypeRulesModel", "digitOf", "(I)I"⟩, prog_14_method_16_code, 1, (some FieldType.int), 10, 1, 0) := rfl
theorem d210_0 : decode prog_14_method_8_code 0 = .ok (.iload_n 0, 1) := by decide +kernel
theorem d210_1 : decode prog_14_method_8_code 1 = .ok (.bipush 48, 2) := by decide +kernel
theorem d210_3 : decode prog_14_method_8_code 3 = .ok (.if_icmp .lt 13, 3) := by decide +kernel
theorem d210_6 : decode prog_14_method_8_code 6 = .ok (.iload_n 0, 1) := by decide +kernel
theorem d210_7 : decode prog_14_method_8_code 7 = .ok (.bipush 57, 2) := by decide +kernel
theorem d210_9 : decode prog_14_method_8_code 9 = .ok (.if_icmp .gt 7, 3) := by decide +kernel
theorem d210_12 : decode prog_14_method_8_code 12 = .ok (.iconst 1, 1) := by decide +kernel
theorem d210_13 : decode prog_14_method_8_code 13 = .ok (.goto 4, 3) := by decide +kernel
theorem d210_16 : decode prog_14_method_8_code 16 = .ok (.iconst 0, 1) := by decide +kernel
theorem d210_17 : decode prog_14_method_8_code 17 = .ok (.ireturn, 1) := by decide +kernel
theorem m210 : pm_m 210 = some (⟨"TypeRulesModel", "isDigit", "(I)Z"⟩, prog_14_method_8_code, 1, (some FieldType.boolean), 10, 1, 0) := rfl
theorem d211_0 : decode prog_14_method_9_code 0 = .ok (.iload_n 0, 1) := by decide +kernel
theorem d211_1 : decode prog_14_method_9_code 1 = .ok (.bipush 97, 2) := by decide +kernel
theorem d211_3 : decode prog_14_method_9_code 3 = .ok (.if_icmp .lt 16, 3) := by decide +kernel
theorem d211_6 : decode prog_14_method_9_code 6 = .ok (.iload_n 0, 1) := by decide +kernel
theorem d211_7 : decode prog_14_method_9_code 7 = .ok (.bipush 122, 2) := by decide +kernel
theorem d211_9 : decode prog_14_method_9_code 9 = .ok (.if_icmp .gt 10, 3) := by decide +kernel
theorem d211_12 : decode prog_14_method_9_code 12 = .ok (.iload_n 0, 1) := by decide +kernel
theorem d211_13 : decode prog_14_method_9_code 13 = .ok (.bipush 32, 2) := by decide +kernel
theorem d211_15 : decode prog_14_method_9_code 15 = .ok (.isub, 1) := by decide +kernel
theorem d211_16 : decode prog_14_method_9_code 16 = .ok (.goto 4, 3) := by decide +kernel
theorem d211_19 : decode prog_14_method_9_code 19 = .ok (.iload_n 0, 1) := by decide +kernel
theorem d211_20 : decode prog_14_method_9_code 20 = .ok (.ireturn, 1) := by decide +kernel
theorem m211 : pm_m 211 = some (⟨"TypeRulesModel", "great", "(I)I"⟩, prog_14_method_9_code, 1, (some FieldType.int), 10, 1, 0) := rfl
theorem d212_0 : decode prog_14_method_18_code 0 = .ok (.lload_n 1, 1) := by decide +kernel
theorem d212_1 : decode prog_14_method_18_code 1 = .ok (.lconst 0, 1) := by decide +kernel
theorem d212_2 : decode prog_14_method_18_code 2 = .ok (.lcmp, 1) := by decide +kernel
theorem d212_3 : decode prog_14_method_18_code 3 = .ok (.ifCond .lt 22, 3) := by decide +kernel
theorem d212_6 : decode prog_14_method_18_code 6 = .ok (.lload_n 1, 1) := by decide +kernel
theorem d212_7 : decode prog_14_method_18_code 7 = .ok (.ldc2_w 182, 3) := by decide +kernel
theorem d212_10 : decode prog_14_method_18_code 10 = .ok (.lcmp, 1) := by decide +kernel
theorem d212_11 : decode prog_14_method_18_code 11 = .ok (.ifCond .gt 14, 3) := by decide +kernel
theorem d212_14 : decode prog_14_method_18_code 14 = .ok (.aload_n 0, 1) := by decide +kernel
theorem d212_15 : decode prog_14_method_18_code 15 = .ok (.iconst 0, 1) := by decide +kernel
theorem d212_16 : decode prog_14_method_18_code 16 = .ok (.invokevirtual 141, 3) := by decide +kernel
theorem d212_19 : decode prog_14_method_18_code 19 = .ok (.invokestatic 184, 3) := by decide +kernel
theorem d212_22 : decode prog_14_method_18_code 22 = .ok (.ifCond .eq 13, 3) := by decide +kernel
theorem d212_25 : decode prog_14_method_18_code 25 = .ok (.aload_n 0, 1) := by decide +kernel
theorem d212_26 : decode prog_14_method_18_code 26 = .ok (.iconst 4, 1) := by decide +kernel
theorem d212_27 : decode prog_14_method_18_code 27 = .ok (.aload_n 0, 1) := by decide +kernel
theorem d212_28 : decode prog_14_method_18_code 28 = .ok (.getfield 151, 3) := by decide +kernel
theorem d212_31 : decode prog_14_method_18_code 31 = .ok (.invokevirtual 144, 3) := by decide +kernel
theorem d212_34 : decode prog_14_method_18_code 34 = .ok (.return_, 1) := by decide +kernel
theorem d212_35 : decode prog_14_method_18_code 35 = .ok (.aload_n 0, 1) := by decide +kernel
theorem d212_36 : decode prog_14_method_18_code 36 = .ok (.iconst 2, 1) := by decide +kernel
theorem d212_37 : decode prog_14_method_18_code 37 = .ok (.putfield 157, 3) := by decide +kernel
theorem d212_40 : decode prog_14_method_18_code 40 = .ok (.aload_n 0, 1) := by decide +kernel
theorem d212_41 : decode prog_14_method_18_code 41 = .ok (.lload_n 1, 1) := by decide +kernel
theorem d212_42 : decode prog_14_method_18_code 42 = .ok (.l2i, 1) := by decide +kernel
theorem d212_43 : decode prog_14_method_18_code 43 = .ok (.putfield 154, 3) := by decide +kernel
theorem d212_46 : decode prog_14_method_18_code 46 = .ok (.return_, 1) := by decide +kernel
theorem m212 : pm_m 212 = some (⟨"TypeRulesModel", "endNumber", "(J)V"⟩, prog_14_method_18_code, 3, none, 10, 1, 11) := rfl
theorem d213_0 : decode prog_14_method_11_code 0 = .ok (.iload_n 0, 1) := by decide +kernel
theorem d213_1 : decode prog_14_method_11_code 1 = .ok (.invokestatic 128, 3) := by decide +kernel
theorem d213_4 : decode prog_14_method_11_code 4 = .ok (.ifCond .ne 10, 3) := by decide +kernel
theorem d213_7 : decode prog_14_method_11_code 7 = .ok (.iload_n 0, 1) := by decide +kernel
theorem d213_8 : decode prog_14_method_11_code 8 = .ok (.invokestatic 132, 3) := by decide +kernel
theorem d213_11 : decode prog_14_method_11_code 11 = .ok (.ifCond .eq 7, 3) := by decide +kernel
theorem d213_14 : decode prog_14_method_11_code 14 = .ok (.iconst 1, 1) := by decide +kernel
theorem d213_15 : decode prog_14_method_11_code 15 = .ok (.goto 4, 3) := by decide +kernel
theorem d213_18 : decode prog_14_method_11_code 18 = .ok (.iconst 0, 1) := by decide +kernel
theorem d213_19 : decode prog_14_method_11_code 19 = .ok (.ireturn, 1) := by decide +kernel
theorem m213 : pm_m 213 = some (⟨"TypeRulesModel", "goesOn", "(I)Z"⟩, prog_14_method_11_code, 1, (some FieldType.boolean), 10, 1, 0) := rfl
theorem d214_0 : decode prog_14_method_10_code 0 = .ok (.iload_n 0, 1) := by decide +kernel
theorem d214_1 : decode prog_14_method_10_code 1 = .ok (.invokestatic 124, 3) := by decide +kernel
theorem d214_4 : decode prog_14_method_10_code 4 = .ok (.bipush 65, 2) := by decide +kernel
theorem d214_6 : decode prog_14_method_10_code 6 = .ok (.if_icmp .lt 12, 3) := by decide +kernel
theorem d214_9 : decode prog_14_method_10_code 9 = .ok (.iload_n 0, 1) := by decide +kernel
theorem d214_10 : decode prog_14_method_10_code 10 = .ok (.invokestatic 124, 3) := by decide +kernel
theorem d214_13 : decode prog_14_method_10_code 13 = .ok (.bipush 90, 2) := by decide +kernel
theorem d214_15 : decode prog_14_method_10_code 15 = .ok (.if_icmp .le 9, 3) := by decide +kernel
theorem d214_18 : decode prog_14_method_10_code 18 = .ok (.iload_n 0, 1) := by decide +kernel
theorem d214_19 : decode prog_14_method_10_code 19 = .ok (.bipush 95, 2) := by decide +kernel
theorem d214_21 : decode prog_14_method_10_code 21 = .ok (.if_icmp .ne 7, 3) := by decide +kernel
theorem d214_24 : decode prog_14_method_10_code 24 = .ok (.iconst 1, 1) := by decide +kernel
theorem d214_25 : decode prog_14_method_10_code 25 = .ok (.goto 4, 3) := by decide +kernel
theorem d214_28 : decode prog_14_method_10_code 28 = .ok (.iconst 0, 1) := by decide +kernel
theorem d214_29 : decode prog_14_method_10_code 29 = .ok (.ireturn, 1) := by decide +kernel
theorem m214 : pm_m 214 = some (⟨"TypeRulesModel", "isLetter", "(I)Z"⟩, prog_14_method_10_code, 1, (some FieldType.boolean), 10, 1, 0) := rfl
theorem d208_0 : decode prog_14_method_17_code 0 = .ok (.aload_n 0, 1) := by decide +kernel
theorem d208_1 : decode prog_14_method_17_code 1 = .ok (.iconst 0, 1) := by decide +kernel
theorem d208_2 : decode prog_14_method_17_code 2 = .ok (.invokevirtual 141, 3) := by decide +kernel
theorem d208_5 : decode prog_14_method_17_code 5 = .ok (.invokestatic 175, 3) := by decide +kernel
theorem d208_8 : decode prog_14_method_17_code 8 = .ok (.iload_n 1, 1) := by decide +kernel
theorem d208_9 : decode prog_14_method_17_code 9 = .ok (.if_icmp .ge 7, 3) := by decide +kernel
theorem d208_12 : decode prog_14_method_17_code 12 = .ok (.lconst 0, 1) := by decide +kernel
theorem d208_13 : decode prog_14_method_17_code 13 = .ok (.goto 6, 3) := by decide +kernel
theorem d208_16 : decode prog_14_method_17_code 16 = .ok (.ldc2_w 178, 3) := by decide +kernel
theorem d208_19 : decode prog_14_method_17_code 19 = .ok (.lstore_n 2, 1) := by decide +kernel
theorem d208_20 : decode prog_14_method_17_code 20 = .ok (.aload_n 0, 1) := by decide +kernel
theorem d208_21 : decode prog_14_method_17_code 21 = .ok (.iconst 0, 1) := by decide +kernel
theorem d208_22 : decode prog_14_method_17_code 22 = .ok (.invokevirtual 141, 3) := by decide +kernel
theorem d208_25 : decode prog_14_method_17_code 25 = .ok (.invokestatic 175, 3) := by decide +kernel
theorem d208_28 : decode prog_14_method_17_code 28 = .ok (.iload_n 1, 1) := by decide +kernel
theorem d208_29 : decode prog_14_method_17_code 29 = .ok (.if_icmp .ge 47, 3) := by decide +kernel
theorem d208_32 : decode prog_14_method_17_code 32 = .ok (.lload_n 2, 1) := by decide +kernel
theorem d208_33 : decode prog_14_method_17_code 33 = .ok (.iload_n 1, 1) := by decide +kernel
theorem d208_34 : decode prog_14_method_17_code 34 = .ok (.i2l, 1) := by decide +kernel
theorem d208_35 : decode prog_14_method_17_code 35 = .ok (.lmul, 1) := by decide +kernel
theorem d208_36 : decode prog_14_method_17_code 36 = .ok (.aload_n 0, 1) := by decide +kernel
theorem d208_37 : decode prog_14_method_17_code 37 = .ok (.iconst 0, 1) := by decide +kernel
theorem d208_38 : decode prog_14_method_17_code 38 = .ok (.invokevirtual 141, 3) := by decide +kernel
theorem d208_41 : decode prog_14_method_17_code 41 = .ok (.invokestatic 175, 3) := by decide +kernel
theorem d208_44 : decode prog_14_method_17_code 44 = .ok (.i2l, 1) := by decide +kernel
theorem d208_45 : decode prog_14_method_17_code 45 = .ok (.ladd, 1) := by decide +kernel
theorem d208_46 : decode prog_14_method_17_code 46 = .ok (.lstore_n 2, 1) := by decide +kernel
theorem d208_47 : decode prog_14_method_17_code 47 = .ok (.lload_n 2, 1) := by decide +kernel
theorem d208_48 : decode prog_14_method_17_code 48 = .ok (.ldc2_w 180, 3) := by decide +kernel
theorem d208_51 : decode prog_14_method_17_code 51 = .ok (.lcmp, 1) := by decide +kernel
theorem d208_52 : decode prog_14_method_17_code 52 = .ok (.ifCond .le 9, 3) := by decide +kernel
theorem d208_55 : decode prog_14_method_17_code 55 = .ok (.ldc2_w 180, 3) := by decide +kernel
theorem d208_58 : decode prog_14_method_17_code 58 = .ok (.goto 4, 3) := by decide +kernel
theorem d208_61 : decode prog_14_method_17_code 61 = .ok (.lload_n 2, 1) := by decide +kernel
theorem d208_62 : decode prog_14_method_17_code 62 = .ok (.lstore_n 2, 1) := by decide +kernel
theorem d208_63 : decode prog_14_method_17_code 63 = .ok (.aload_n 0, 1) := by decide +kernel
theorem d208_64 : decode prog_14_method_17_code 64 = .ok (.dup, 1) := by decide +kernel
theorem d208_65 : decode prog_14_method_17_code 65 = .ok (.getfield 121, 3) := by decide +kernel
theorem d208_68 : decode prog_14_method_17_code 68 = .ok (.iconst 1, 1) := by decide +kernel
theorem d208_69 : decode prog_14_method_17_code 69 = .ok (.iadd, 1) := by decide +kernel
theorem d208_70 : decode prog_14_method_17_code 70 = .ok (.putfield 121, 3) := by decide +kernel
theorem d208_73 : decode prog_14_method_17_code 73 = .ok (.goto (-53), 3) := by decide +kernel
theorem d208_76 : decode prog_14_method_17_code 76 = .ok (.lload_n 2, 1) := by decide +kernel
theorem d208_77 : decode prog_14_method_17_code 77 = .ok (.lreturn, 1) := by decide +kernel
theorem m208 : pm_m 208 = some (⟨"TypeRulesModel", "digits", "(I)J"⟩, prog_14_method_17_code, 4, (some FieldType.long), 10, 1, 11) := rfl
theorem sp205 {d : Nat} {σ : pm_S} {Q : Option Value → pm_S → Prop} {t : Nat → Nat} {M : Nat} {p k : Nat} (hT : rx_T σ t M) (hp : p + k < 2 ^ 30) (hQ : Q (some (.int (lx_c t M (p + k)))) (rs σ p)) : pm_call pm_Y0 (d + 1) 205 [.ref 10, .int (nI k)] (rs σ p) Q := by
  obtain ⟨hL, hM, hc, ht⟩ := hT
  have ei := nI_toInt (n := p + k) (by omega)
  have eM := nI_toInt (n := M) (by omega)
  have hLs : (rs σ p).1 10 1 = nI M := hL
  have h1 : p + k < M → Q (some (.int (nI (t (p + k))))) (rs σ p) := fun h => by rw [show lx_c t M (p + k) = nI (t (p + k)) from if_pos h] at hQ; exact hQ
  have h0 : ¬ p + k < M → Q (some (.int (-1))) (rs σ p) := fun h => by rw [show lx_c t M (p + k) = -1 from if_neg h] at hQ; exact hQ
  have hcs : (rs σ p).2.2 43 (p + k) = nI (t (p + k)) := hc (p + k)
  clear hQ
  refine wq_m m205 (Nat.le_of_ble_eq_true rfl) (by decide) rfl ?_
  refine wq_l 1 d205_0 rfl rfl rfl rfl ?_
  refine wq_gi (ci := 10) (j := 2) 4 d205_1 rfl rfl rfl rfl ?_
  rw [rs_2]
  refine wq_l 5 d205_4 rfl rfl rfl rfl ?_
  refine wq_a 6 d205_5 rfl rfl ?_
  rw [nI_add]
  refine wq_l 7 d205_6 rfl rfl rfl rfl ?_
  refine wq_gi (ci := 10) (j := 1) 10 d205_7 rfl rfl rfl rfl ?_
  rw [hLs]
  refine wq_b 27 13 d205_10 rfl (by decide) rfl (fun c10 => ?_) (fun c10 => ?_)
  · -- pc 27
    refine wq_k 28 (-1) d205_27 (by decide) rfl ?_
    refine wq_ri d205_28 (rfl) ?_
    first | exact h1 (by simp only [i_lt, i_le, i_eq, ne_eq, Int32.reduceToInt, b2_0, b2_1, decide_eq_true_eq, decide_eq_false_iff_not, Bool.not_eq_true, Bool.not_eq_false] at * <;> omega) | exact h0 (by simp only [i_lt, i_le, i_eq, ne_eq, Int32.reduceToInt, b2_0, b2_1, decide_eq_true_eq, decide_eq_false_iff_not, Bool.not_eq_true, Bool.not_eq_false] at * <;> omega)
  · -- pc 13
    refine wq_l 14 d205_13 rfl rfl rfl rfl ?_
    refine wq_gr (ci := 10) (j := 0) (q := 43) 17 d205_14 rfl rfl rfl rfl ?_
    refine wq_l 18 d205_17 rfl rfl rfl rfl ?_
    refine wq_gi (ci := 10) (j := 2) 21 d205_18 rfl rfl rfl rfl ?_
    rw [rs_2]
    refine wq_l 22 d205_21 rfl rfl rfl rfl ?_
    refine wq_a 23 d205_22 rfl rfl ?_
    rw [nI_add]
    refine wq_al 24 d205_23 rfl rfl rfl (vp_in_iff.mpr (by simp only [i_lt, i_le, i_eq, ne_eq, Int32.reduceToInt, b2_0, b2_1, decide_eq_true_eq, decide_eq_false_iff_not, Bool.not_eq_true, Bool.not_eq_false] at * <;> omega)) ?_
    rw [nI_clamp (by omega), hcs]
    refine wq_g 28 d205_24 (by decide) ?_
    refine wq_ri d205_28 (rfl) ?_
    first | exact h1 (by simp only [i_lt, i_le, i_eq, ne_eq, Int32.reduceToInt, b2_0, b2_1, decide_eq_true_eq, decide_eq_false_iff_not, Bool.not_eq_true, Bool.not_eq_false] at * <;> omega) | exact h0 (by simp only [i_lt, i_le, i_eq, ne_eq, Int32.reduceToInt, b2_0, b2_1, decide_eq_true_eq, decide_eq_false_iff_not, Bool.not_eq_true, Bool.not_eq_false] at * <;> omega)
theorem sp206 {d : Nat} {σ : pm_S} {Q : Option Value → pm_S → Prop} {x y : Int32} (h0 : σ.1 10 6 = 0) (hQ : Q none (pm_pi (pm_pi σ 10 6 x) 10 7 y)) : pm_call pm_Y0 (d + 1) 206 [.ref 10, .int x, .int y] σ Q := by
  refine wq_m m206 (Nat.le_of_ble_eq_true rfl) (by decide) rfl ?_
  refine wq_l 1 d206_0 rfl rfl rfl rfl ?_
  refine wq_gi (ci := 10) (j := 6) 4 d206_1 rfl rfl rfl rfl ?_
  rw [h0]
  refine wq_b 17 7 d206_4 rfl (by decide) rfl (fun c4 => absurd c4 (fun z => z rfl)) (fun c4 => ?_)
  refine wq_l 8 d206_7 rfl rfl rfl rfl ?_
  refine wq_l 9 d206_8 rfl rfl rfl rfl ?_
  refine wq_pf (ci := 10) (j := 6) 12 d206_9 rfl rfl rfl ⟨rfl, rfl⟩ rfl ?_
  refine wq_l 13 d206_12 rfl rfl rfl rfl ?_
  refine wq_l 14 d206_13 rfl rfl rfl rfl ?_
  refine wq_pf (ci := 10) (j := 7) 17 d206_14 rfl rfl rfl ⟨rfl, rfl⟩ rfl ?_
  refine wq_rv d206_17 ?_
  exact hQ
theorem sp210 {Y : pm_Y} {d : Nat} {σ : pm_S} {Q : Option Value → pm_S → Prop} {c : Int32} (hQ : Q (some (.int (b2 (lx_dg c.toInt)))) σ) : pm_call Y (d + 1) 210 [.int c] σ Q := by
  have h1 : (48 ≤ c.toInt ∧ c.toInt ≤ 57) → Q (some (.int 1)) σ := fun h => by rw [b2_t (show lx_dg c.toInt = true from decide_eq_true h)] at hQ; exact hQ
  have h0 : ¬ (48 ≤ c.toInt ∧ c.toInt ≤ 57) → Q (some (.int 0)) σ := fun h => by rw [b2_f (show lx_dg c.toInt = false from decide_eq_false h)] at hQ; exact hQ
  clear hQ
  refine wq_m m210 (Nat.le_of_ble_eq_true rfl) (by decide) rfl ?_
  refine wq_l 1 d210_0 rfl rfl rfl rfl ?_
  refine wq_k 3 48 d210_1 (by decide) rfl ?_
  refine wq_b 16 6 d210_3 rfl (by decide) rfl (fun c3 => ?_) (fun c3 => ?_)
  · -- pc 16
    refine wq_k 17 0 d210_16 (by decide) rfl ?_
    refine wq_ri d210_17 (rfl) ?_
    first | exact h1 (by simp only [i_lt, i_le, i_eq, ne_eq, Int32.reduceToInt, b2_0, b2_1, decide_eq_true_eq, decide_eq_false_iff_not, Bool.not_eq_true, Bool.not_eq_false] at * <;> omega) | exact h0 (by simp only [i_lt, i_le, i_eq, ne_eq, Int32.reduceToInt, b2_0, b2_1, decide_eq_true_eq, decide_eq_false_iff_not, Bool.not_eq_true, Bool.not_eq_false] at * <;> omega) | (exfalso; simp only [i_lt, i_le, i_eq, ne_eq, Int32.reduceToInt, b2_0, b2_1, decide_eq_true_eq, decide_eq_false_iff_not, Bool.not_eq_true, Bool.not_eq_false] at * <;> omega)
  · -- pc 6
    refine wq_l 7 d210_6 rfl rfl rfl rfl ?_
    refine wq_k 9 57 d210_7 (by decide) rfl ?_
    refine wq_b 16 12 d210_9 rfl (by decide) rfl (fun c9 => ?_) (fun c9 => ?_)
    · -- pc 16
      refine wq_k 17 0 d210_16 (by decide) rfl ?_
      refine wq_ri d210_17 (rfl) ?_
      first | exact h1 (by simp only [i_lt, i_le, i_eq, ne_eq, Int32.reduceToInt, b2_0, b2_1, decide_eq_true_eq, decide_eq_false_iff_not, Bool.not_eq_true, Bool.not_eq_false] at * <;> omega) | exact h0 (by simp only [i_lt, i_le, i_eq, ne_eq, Int32.reduceToInt, b2_0, b2_1, decide_eq_true_eq, decide_eq_false_iff_not, Bool.not_eq_true, Bool.not_eq_false] at * <;> omega) | (exfalso; simp only [i_lt, i_le, i_eq, ne_eq, Int32.reduceToInt, b2_0, b2_1, decide_eq_true_eq, decide_eq_false_iff_not, Bool.not_eq_true, Bool.not_eq_false] at * <;> omega)
    · -- pc 12
      refine wq_k 13 1 d210_12 (by decide) rfl ?_
      refine wq_g 17 d210_13 (by decide) ?_
      refine wq_ri d210_17 (rfl) ?_
      first | exact h1 (by simp only [i_lt, i_le, i_eq, ne_eq, Int32.reduceToInt, b2_0, b2_1, decide_eq_true_eq, decide_eq_false_iff_not, Bool.not_eq_true, Bool.not_eq_false] at * <;> omega) | exact h0 (by simp only [i_lt, i_le, i_eq, ne_eq, Int32.reduceToInt, b2_0, b2_1, decide_eq_true_eq, decide_eq_false_iff_not, Bool.not_eq_true, Bool.not_eq_false] at * <;> omega) | (exfalso; simp only [i_lt, i_le, i_eq, ne_eq, Int32.reduceToInt, b2_0, b2_1, decide_eq_true_eq, decide_eq_false_iff_not, Bool.not_eq_true, Bool.not_eq_false] at * <;> omega)
def rx_g (c : Int32) : Int32 := if 97 ≤ c.toInt ∧ c.toInt ≤ 122 then c - 32 else c
theorem sp211 {Y : pm_Y} {d : Nat} {σ : pm_S} {Q : Option Value → pm_S → Prop} {c : Int32} (hQ : Q (some (.int (rx_g c))) σ) : pm_call Y (d + 1) 211 [.int c] σ Q := by
  have h1 : (97 ≤ c.toInt ∧ c.toInt ≤ 122) → Q (some (.int (c - 32))) σ := fun h => by rw [show rx_g c = c - 32 from if_pos h] at hQ; exact hQ
  have h0 : ¬ (97 ≤ c.toInt ∧ c.toInt ≤ 122) → Q (some (.int c)) σ := fun h => by rw [show rx_g c = c from if_neg h] at hQ; exact hQ
  clear hQ
  refine wq_m m211 (Nat.le_of_ble_eq_true rfl) (by decide) rfl ?_
  refine wq_l 1 d211_0 rfl rfl rfl rfl ?_
  refine wq_k 3 97 d211_1 (by decide) rfl ?_
  refine wq_b 19 6 d211_3 rfl (by decide) rfl (fun c3 => ?_) (fun c3 => ?_)
  · -- pc 19
    refine wq_l 20 d211_19 rfl rfl rfl rfl ?_
    refine wq_ri d211_20 (rfl) ?_
    first | exact h1 (by simp only [i_lt, i_le, i_eq, ne_eq, Int32.reduceToInt, b2_0, b2_1, decide_eq_true_eq, decide_eq_false_iff_not, Bool.not_eq_true, Bool.not_eq_false] at * <;> omega) | exact h0 (by simp only [i_lt, i_le, i_eq, ne_eq, Int32.reduceToInt, b2_0, b2_1, decide_eq_true_eq, decide_eq_false_iff_not, Bool.not_eq_true, Bool.not_eq_false] at * <;> omega) | (exfalso; simp only [i_lt, i_le, i_eq, ne_eq, Int32.reduceToInt, b2_0, b2_1, decide_eq_true_eq, decide_eq_false_iff_not, Bool.not_eq_true, Bool.not_eq_false] at * <;> omega)
  · -- pc 6
    refine wq_l 7 d211_6 rfl rfl rfl rfl ?_
    refine wq_k 9 122 d211_7 (by decide) rfl ?_
    refine wq_b 19 12 d211_9 rfl (by decide) rfl (fun c9 => ?_) (fun c9 => ?_)
    · -- pc 19
      refine wq_l 20 d211_19 rfl rfl rfl rfl ?_
      refine wq_ri d211_20 (rfl) ?_
      first | exact h1 (by simp only [i_lt, i_le, i_eq, ne_eq, Int32.reduceToInt, b2_0, b2_1, decide_eq_true_eq, decide_eq_false_iff_not, Bool.not_eq_true, Bool.not_eq_false] at * <;> omega) | exact h0 (by simp only [i_lt, i_le, i_eq, ne_eq, Int32.reduceToInt, b2_0, b2_1, decide_eq_true_eq, decide_eq_false_iff_not, Bool.not_eq_true, Bool.not_eq_false] at * <;> omega) | (exfalso; simp only [i_lt, i_le, i_eq, ne_eq, Int32.reduceToInt, b2_0, b2_1, decide_eq_true_eq, decide_eq_false_iff_not, Bool.not_eq_true, Bool.not_eq_false] at * <;> omega)
    · -- pc 12
      refine wq_l 13 d211_12 rfl rfl rfl rfl ?_
      refine wq_k 15 32 d211_13 (by decide) rfl ?_
      refine wq_a 16 d211_15 rfl rfl ?_
      refine wq_g 20 d211_16 (by decide) ?_
      refine wq_ri d211_20 (rfl) ?_
      first | exact h1 (by simp only [i_lt, i_le, i_eq, ne_eq, Int32.reduceToInt, b2_0, b2_1, decide_eq_true_eq, decide_eq_false_iff_not, Bool.not_eq_true, Bool.not_eq_false] at * <;> omega) | exact h0 (by simp only [i_lt, i_le, i_eq, ne_eq, Int32.reduceToInt, b2_0, b2_1, decide_eq_true_eq, decide_eq_false_iff_not, Bool.not_eq_true, Bool.not_eq_false] at * <;> omega) | (exfalso; simp only [i_lt, i_le, i_eq, ne_eq, Int32.reduceToInt, b2_0, b2_1, decide_eq_true_eq, decide_eq_false_iff_not, Bool.not_eq_true, Bool.not_eq_false] at * <;> omega)
theorem rx_gn {b : Nat} (hb : b < 256) : rx_g (nI b) = nI (nm_g b) := by
  have e := nI_toInt (n := b) (by omega)
  unfold rx_g nm_g
  rw [e]
  by_cases h : 97 ≤ b ∧ b ≤ 122
  · rw [if_pos (by omega), if_pos h]; exact pk_sub (b := 32) (by omega)
  · rw [if_neg (by omega), if_neg h]
theorem rx_gc {t : Nat → Nat} {M : Nat} (ht : ∀ i, t i < 256) (i : Nat) : rx_g (lx_c t M i) = lx_g t M i := by
  unfold lx_c lx_g
  by_cases h : i < M
  · rw [if_pos h, if_pos h]; exact rx_gn (ht i)
  · rw [if_neg h, if_neg h]; rfl
theorem rx_gt (c : Int32) : (97 ≤ c.toInt ∧ c.toInt ≤ 122 ∧ (rx_g c).toInt = c.toInt - 32) ∨ (¬ (97 ≤ c.toInt ∧ c.toInt ≤ 122) ∧ (rx_g c).toInt = c.toInt) := by
  unfold rx_g
  by_cases h : 97 ≤ c.toInt ∧ c.toInt ≤ 122
  · rw [if_pos h]
    exact Or.inl ⟨h.1, h.2, by rw [i_sub _ _ (by rw [show (32 : Int32).toInt = 32 from rfl]; omega)]; rfl⟩
  · rw [if_neg h]; exact Or.inr ⟨h, rfl⟩
def rx_l (c : Int) : Bool := decide ((65 ≤ c ∧ c ≤ 90) ∨ (97 ≤ c ∧ c ≤ 122) ∨ c = 95)
theorem sp214 {Y : pm_Y} {d : Nat} {σ : pm_S} {Q : Option Value → pm_S → Prop} {c : Int32} (hQ : Q (some (.int (b2 (rx_l c.toInt)))) σ) : pm_call Y (d + 2) 214 [.int c] σ Q := by
  have h1 : ((65 ≤ c.toInt ∧ c.toInt ≤ 90) ∨ (97 ≤ c.toInt ∧ c.toInt ≤ 122) ∨ c.toInt = 95) → Q (some (.int 1)) σ := fun h => by rw [b2_t (show rx_l c.toInt = true from decide_eq_true h)] at hQ; exact hQ
  have h0 : ¬ ((65 ≤ c.toInt ∧ c.toInt ≤ 90) ∨ (97 ≤ c.toInt ∧ c.toInt ≤ 122) ∨ c.toInt = 95) → Q (some (.int 0)) σ := fun h => by rw [b2_f (show rx_l c.toInt = false from decide_eq_false h)] at hQ; exact hQ
  have hg := rx_gt c
  clear hQ
  refine wq_m m214 (Nat.le_of_ble_eq_true rfl) (by decide) rfl ?_
  refine wq_l 1 d214_0 rfl rfl rfl rfl ?_
  refine wq_vs 4 [_] d214_1 rfl rfl m211 rfl (Nat.le_of_ble_eq_true rfl) rfl (sp211 ?_)
  refine wq_k 6 65 d214_4 (by decide) rfl ?_
  refine wq_b 18 9 d214_6 rfl (by decide) rfl (fun c6 => ?_) (fun c6 => ?_)
  · -- pc 18
    refine wq_l 19 d214_18 rfl rfl rfl rfl ?_
    refine wq_k 21 95 d214_19 (by decide) rfl ?_
    refine wq_b 28 24 d214_21 rfl (by decide) rfl (fun c21 => ?_) (fun c21 => ?_)
    · -- pc 28
      refine wq_k 29 0 d214_28 (by decide) rfl ?_
      refine wq_ri d214_29 (rfl) ?_
      first | exact h1 (by simp only [i_lt, i_le, i_eq, ne_eq, Int32.reduceToInt, b2_0, b2_1, decide_eq_true_eq, decide_eq_false_iff_not, Bool.not_eq_true, Bool.not_eq_false] at * <;> omega) | exact h0 (by simp only [i_lt, i_le, i_eq, ne_eq, Int32.reduceToInt, b2_0, b2_1, decide_eq_true_eq, decide_eq_false_iff_not, Bool.not_eq_true, Bool.not_eq_false] at * <;> omega) | (exfalso; simp only [i_lt, i_le, i_eq, ne_eq, Int32.reduceToInt, b2_0, b2_1, decide_eq_true_eq, decide_eq_false_iff_not, Bool.not_eq_true, Bool.not_eq_false] at * <;> omega)
    · -- pc 24
      refine wq_k 25 1 d214_24 (by decide) rfl ?_
      refine wq_g 29 d214_25 (by decide) ?_
      refine wq_ri d214_29 (rfl) ?_
      first | exact h1 (by simp only [i_lt, i_le, i_eq, ne_eq, Int32.reduceToInt, b2_0, b2_1, decide_eq_true_eq, decide_eq_false_iff_not, Bool.not_eq_true, Bool.not_eq_false] at * <;> omega) | exact h0 (by simp only [i_lt, i_le, i_eq, ne_eq, Int32.reduceToInt, b2_0, b2_1, decide_eq_true_eq, decide_eq_false_iff_not, Bool.not_eq_true, Bool.not_eq_false] at * <;> omega) | (exfalso; simp only [i_lt, i_le, i_eq, ne_eq, Int32.reduceToInt, b2_0, b2_1, decide_eq_true_eq, decide_eq_false_iff_not, Bool.not_eq_true, Bool.not_eq_false] at * <;> omega)
  · -- pc 9
    refine wq_l 10 d214_9 rfl rfl rfl rfl ?_
    refine wq_vs 13 [_] d214_10 rfl rfl m211 rfl (Nat.le_of_ble_eq_true rfl) rfl (sp211 ?_)
    refine wq_k 15 90 d214_13 (by decide) rfl ?_
    refine wq_b 24 18 d214_15 rfl (by decide) rfl (fun c15 => ?_) (fun c15 => ?_)
    · -- pc 24
      refine wq_k 25 1 d214_24 (by decide) rfl ?_
      refine wq_g 29 d214_25 (by decide) ?_
      refine wq_ri d214_29 (rfl) ?_
      first | exact h1 (by simp only [i_lt, i_le, i_eq, ne_eq, Int32.reduceToInt, b2_0, b2_1, decide_eq_true_eq, decide_eq_false_iff_not, Bool.not_eq_true, Bool.not_eq_false] at * <;> omega) | exact h0 (by simp only [i_lt, i_le, i_eq, ne_eq, Int32.reduceToInt, b2_0, b2_1, decide_eq_true_eq, decide_eq_false_iff_not, Bool.not_eq_true, Bool.not_eq_false] at * <;> omega) | (exfalso; simp only [i_lt, i_le, i_eq, ne_eq, Int32.reduceToInt, b2_0, b2_1, decide_eq_true_eq, decide_eq_false_iff_not, Bool.not_eq_true, Bool.not_eq_false] at * <;> omega)
    · -- pc 18
      refine wq_l 19 d214_18 rfl rfl rfl rfl ?_
      refine wq_k 21 95 d214_19 (by decide) rfl ?_
      refine wq_b 28 24 d214_21 rfl (by decide) rfl (fun c21 => ?_) (fun c21 => ?_)
      · -- pc 28
        refine wq_k 29 0 d214_28 (by decide) rfl ?_
        refine wq_ri d214_29 (rfl) ?_
        first | exact h1 (by simp only [i_lt, i_le, i_eq, ne_eq, Int32.reduceToInt, b2_0, b2_1, decide_eq_true_eq, decide_eq_false_iff_not, Bool.not_eq_true, Bool.not_eq_false] at * <;> omega) | exact h0 (by simp only [i_lt, i_le, i_eq, ne_eq, Int32.reduceToInt, b2_0, b2_1, decide_eq_true_eq, decide_eq_false_iff_not, Bool.not_eq_true, Bool.not_eq_false] at * <;> omega) | (exfalso; simp only [i_lt, i_le, i_eq, ne_eq, Int32.reduceToInt, b2_0, b2_1, decide_eq_true_eq, decide_eq_false_iff_not, Bool.not_eq_true, Bool.not_eq_false] at * <;> omega)
      · -- pc 24
        refine wq_k 25 1 d214_24 (by decide) rfl ?_
        refine wq_g 29 d214_25 (by decide) ?_
        refine wq_ri d214_29 (rfl) ?_
        first | exact h1 (by simp only [i_lt, i_le, i_eq, ne_eq, Int32.reduceToInt, b2_0, b2_1, decide_eq_true_eq, decide_eq_false_iff_not, Bool.not_eq_true, Bool.not_eq_false] at * <;> omega) | exact h0 (by simp only [i_lt, i_le, i_eq, ne_eq, Int32.reduceToInt, b2_0, b2_1, decide_eq_true_eq, decide_eq_false_iff_not, Bool.not_eq_true, Bool.not_eq_false] at * <;> omega) | (exfalso; simp only [i_lt, i_le, i_eq, ne_eq, Int32.reduceToInt, b2_0, b2_1, decide_eq_true_eq, decide_eq_false_iff_not, Bool.not_eq_true, Bool.not_eq_false] at * <;> omega)
theorem sp213 {Y : pm_Y} {d : Nat} {σ : pm_S} {Q : Option Value → pm_S → Prop} {c : Int32} (hQ : Q (some (.int (b2 (lx_np c.toInt)))) σ) : pm_call Y (d + 3) 213 [.int c] σ Q := by
  have h1 : ((65 ≤ c.toInt ∧ c.toInt ≤ 90) ∨ (97 ≤ c.toInt ∧ c.toInt ≤ 122) ∨ c.toInt = 95 ∨ (48 ≤ c.toInt ∧ c.toInt ≤ 57)) → Q (some (.int 1)) σ := fun h => by rw [b2_t (show lx_np c.toInt = true from decide_eq_true h)] at hQ; exact hQ
  have h0 : ¬ ((65 ≤ c.toInt ∧ c.toInt ≤ 90) ∨ (97 ≤ c.toInt ∧ c.toInt ≤ 122) ∨ c.toInt = 95 ∨ (48 ≤ c.toInt ∧ c.toInt ≤ 57)) → Q (some (.int 0)) σ := fun h => by rw [b2_f (show lx_np c.toInt = false from decide_eq_false h)] at hQ; exact hQ
  clear hQ
  refine wq_m m213 (Nat.le_of_ble_eq_true rfl) (by decide) rfl ?_
  refine wq_l 1 d213_0 rfl rfl rfl rfl ?_
  refine wq_vs 4 [_] d213_1 rfl rfl m214 rfl (Nat.le_of_ble_eq_true rfl) rfl (sp214 ?_)
  refine wq_b 14 7 d213_4 rfl (by decide) rfl (fun c4 => ?_) (fun c4 => ?_)
  · -- pc 14
    refine wq_k 15 1 d213_14 (by decide) rfl ?_
    refine wq_g 19 d213_15 (by decide) ?_
    refine wq_ri d213_19 (rfl) ?_
    first | exact h1 (by simp only [i_lt, i_le, i_eq, ne_eq, Int32.reduceToInt, b2_0, b2_1, decide_eq_true_eq, decide_eq_false_iff_not, Bool.not_eq_true, Bool.not_eq_false, rx_l, lx_dg] at * <;> omega) | exact h0 (by simp only [i_lt, i_le, i_eq, ne_eq, Int32.reduceToInt, b2_0, b2_1, decide_eq_true_eq, decide_eq_false_iff_not, Bool.not_eq_true, Bool.not_eq_false, rx_l, lx_dg] at * <;> omega) | (exfalso; simp only [i_lt, i_le, i_eq, ne_eq, Int32.reduceToInt, b2_0, b2_1, decide_eq_true_eq, decide_eq_false_iff_not, Bool.not_eq_true, Bool.not_eq_false, rx_l, lx_dg] at * <;> omega)
  · -- pc 7
    refine wq_l 8 d213_7 rfl rfl rfl rfl ?_
    refine wq_vs 11 [_] d213_8 rfl rfl m210 rfl (Nat.le_of_ble_eq_true rfl) rfl (sp210 ?_)
    refine wq_b 18 14 d213_11 rfl (by decide) rfl (fun c11 => ?_) (fun c11 => ?_)
    · -- pc 18
      refine wq_k 19 0 d213_18 (by decide) rfl ?_
      refine wq_ri d213_19 (rfl) ?_
      first | exact h1 (by simp only [i_lt, i_le, i_eq, ne_eq, Int32.reduceToInt, b2_0, b2_1, decide_eq_true_eq, decide_eq_false_iff_not, Bool.not_eq_true, Bool.not_eq_false, rx_l, lx_dg] at * <;> omega) | exact h0 (by simp only [i_lt, i_le, i_eq, ne_eq, Int32.reduceToInt, b2_0, b2_1, decide_eq_true_eq, decide_eq_false_iff_not, Bool.not_eq_true, Bool.not_eq_false, rx_l, lx_dg] at * <;> omega) | (exfalso; simp only [i_lt, i_le, i_eq, ne_eq, Int32.reduceToInt, b2_0, b2_1, decide_eq_true_eq, decide_eq_false_iff_not, Bool.not_eq_true, Bool.not_eq_false, rx_l, lx_dg] at * <;> omega)
    · -- pc 14
      refine wq_k 15 1 d213_14 (by decide) rfl ?_
      refine wq_g 19 d213_15 (by decide) ?_
      refine wq_ri d213_19 (rfl) ?_
      first | exact h1 (by simp only [i_lt, i_le, i_eq, ne_eq, Int32.reduceToInt, b2_0, b2_1, decide_eq_true_eq, decide_eq_false_iff_not, Bool.not_eq_true, Bool.not_eq_false, rx_l, lx_dg] at * <;> omega) | exact h0 (by simp only [i_lt, i_le, i_eq, ne_eq, Int32.reduceToInt, b2_0, b2_1, decide_eq_true_eq, decide_eq_false_iff_not, Bool.not_eq_true, Bool.not_eq_false, rx_l, lx_dg] at * <;> omega) | (exfalso; simp only [i_lt, i_le, i_eq, ne_eq, Int32.reduceToInt, b2_0, b2_1, decide_eq_true_eq, decide_eq_false_iff_not, Bool.not_eq_true, Bool.not_eq_false, rx_l, lx_dg] at * <;> omega)
/-- a digit's value, 99: none -/
def rx_d (t : Nat → Nat) (M p : Nat) : Int32 := if p < M ∧ lx_dk (t p) < 16 then nI (lx_dk (t p)) else 99
theorem rx_dk {t : Nat → Nat} {M p : Nat} (ht : ∀ i, t i < 256) : (48 ≤ lx_i t M p ∧ lx_i t M p ≤ 57 ∧ rx_d t M p = lx_c t M p - 48) ∨ (¬ (48 ≤ lx_i t M p ∧ lx_i t M p ≤ 57) ∧ (65 ≤ lx_gi t M p ∧ lx_gi t M p ≤ 70) ∧ rx_d t M p = lx_g t M p - 55) ∨ (¬ (48 ≤ lx_i t M p ∧ lx_i t M p ≤ 57) ∧ ¬ (65 ≤ lx_gi t M p ∧ lx_gi t M p ≤ 70) ∧ rx_d t M p = 99) := by
  have tp := ht p
  unfold rx_d lx_c lx_i lx_g lx_gi
  by_cases h : p < M
  · simp only [if_pos h]
    unfold lx_dk
    by_cases h1 : 48 ≤ t p ∧ t p ≤ 57
    · left
      simp only [if_pos h1]
      rw [if_pos ⟨h, by omega⟩]
      exact ⟨by omega, by omega, (pk_sub (b := 48) (by omega)).symm⟩
    · simp only [if_neg h1]
      by_cases h2 : 65 ≤ nm_g (t p) ∧ nm_g (t p) ≤ 70
      · right; left
        simp only [if_pos h2]
        rw [if_pos ⟨h, by omega⟩]
        exact ⟨by omega, by omega, (pk_sub (b := 55) (by omega)).symm⟩
      · right; right
        simp only [if_neg h2]
        rw [if_neg (by omega)]
        exact ⟨by omega, by omega, rfl⟩
  · right; right
    rw [if_neg h, if_neg h, if_neg (by omega)]
    exact ⟨by omega, by omega, rfl⟩
theorem sp209 {d : Nat} {σ : pm_S} {Q : Option Value → pm_S → Prop} {t : Nat → Nat} {M : Nat} {p : Nat} (ht : ∀ i, t i < 256) (hQ : Q (some (.int (rx_d t M p))) σ) : pm_call pm_Y0 (d + 2) 209 [.int (lx_c t M p)] σ Q := by
  have e0 := lx_ci (M := M) ht p
  have e1 := lx_gci (M := M) ht p
  have eg := rx_gc (M := M) ht p
  have hd := rx_dk (M := M) (p := p) ht
  refine wq_m m209 (Nat.le_of_ble_eq_true rfl) (by decide) rfl ?_
  refine wq_l 1 d209_0 rfl rfl rfl rfl ?_
  refine wq_vs 4 [_] d209_1 rfl rfl m210 rfl (Nat.le_of_ble_eq_true rfl) rfl (sp210 ?_)
  refine wq_b 14 7 d209_4 rfl (by decide) rfl (fun c4 => ?_) (fun c4 => ?_)
  · -- pc 14
    refine wq_l 15 d209_14 rfl rfl rfl rfl ?_
    refine wq_vs 18 [_] d209_15 rfl rfl m211 rfl (Nat.le_of_ble_eq_true rfl) rfl (sp211 ?_)
    rw [eg]
    refine wq_k 20 65 d209_18 (by decide) rfl ?_
    refine wq_b 42 23 d209_20 rfl (by decide) rfl (fun c20 => ?_) (fun c20 => ?_)
    · -- pc 42
      refine wq_k 44 99 d209_42 (by decide) rfl ?_
      refine wq_ri d209_44 (rfl) ?_
      rcases hd with ⟨h1, h2, h3⟩ | ⟨h1, h2, h3⟩ | ⟨h1, h2, h3⟩ <;> first
        | (rw [h3] at hQ; exact hQ)
        | (exfalso; clear hQ h3; simp only [i_lt, i_le, i_eq, ne_eq, Int32.reduceToInt, b2_0, b2_1, decide_eq_true_eq, decide_eq_false_iff_not, Bool.not_eq_true, Bool.not_eq_false, e0, e1, lx_dg] at * <;> omega)
    · -- pc 23
      refine wq_l 24 d209_23 rfl rfl rfl rfl ?_
      refine wq_vs 27 [_] d209_24 rfl rfl m211 rfl (Nat.le_of_ble_eq_true rfl) rfl (sp211 ?_)
      rw [eg]
      refine wq_k 29 70 d209_27 (by decide) rfl ?_
      refine wq_b 42 32 d209_29 rfl (by decide) rfl (fun c29 => ?_) (fun c29 => ?_)
      · -- pc 42
        refine wq_k 44 99 d209_42 (by decide) rfl ?_
        refine wq_ri d209_44 (rfl) ?_
        rcases hd with ⟨h1, h2, h3⟩ | ⟨h1, h2, h3⟩ | ⟨h1, h2, h3⟩ <;> first
          | (rw [h3] at hQ; exact hQ)
          | (exfalso; clear hQ h3; simp only [i_lt, i_le, i_eq, ne_eq, Int32.reduceToInt, b2_0, b2_1, decide_eq_true_eq, decide_eq_false_iff_not, Bool.not_eq_true, Bool.not_eq_false, e0, e1, lx_dg] at * <;> omega)
      · -- pc 32
        refine wq_l 33 d209_32 rfl rfl rfl rfl ?_
        refine wq_vs 36 [_] d209_33 rfl rfl m211 rfl (Nat.le_of_ble_eq_true rfl) rfl (sp211 ?_)
        rw [eg]
        refine wq_k 38 55 d209_36 (by decide) rfl ?_
        refine wq_a 39 d209_38 rfl rfl ?_
        refine wq_g 44 d209_39 (by decide) ?_
        refine wq_ri d209_44 (rfl) ?_
        rcases hd with ⟨h1, h2, h3⟩ | ⟨h1, h2, h3⟩ | ⟨h1, h2, h3⟩ <;> first
          | (rw [h3] at hQ; exact hQ)
          | (exfalso; clear hQ h3; simp only [i_lt, i_le, i_eq, ne_eq, Int32.reduceToInt, b2_0, b2_1, decide_eq_true_eq, decide_eq_false_iff_not, Bool.not_eq_true, Bool.not_eq_false, e0, e1, lx_dg] at * <;> omega)
  · -- pc 7
    refine wq_l 8 d209_7 rfl rfl rfl rfl ?_
    refine wq_k 10 48 d209_8 (by decide) rfl ?_
    refine wq_a 11 d209_10 rfl rfl ?_
    refine wq_g 44 d209_11 (by decide) ?_
    refine wq_ri d209_44 (rfl) ?_
    rcases hd with ⟨h1, h2, h3⟩ | ⟨h1, h2, h3⟩ | ⟨h1, h2, h3⟩ <;> first
      | (rw [h3] at hQ; exact hQ)
      | (exfalso; clear hQ h3; simp only [i_lt, i_le, i_eq, ne_eq, Int32.reduceToInt, b2_0, b2_1, decide_eq_true_eq, decide_eq_false_iff_not, Bool.not_eq_true, Bool.not_eq_false, e0, e1, lx_dg] at * <;> omega)
