theorem d278_0 : decode prog_14_method_85_code 0 = .ok (.iconst 0, 1) := by decide +kernel
theorem d278_1 : decode prog_14_method_85_code 1 = .ok (.istore_n 2, 1) := by decide +kernel
theorem d278_2 : decode prog_14_method_85_code 2 = .ok (.aload_n 0, 1) := by decide +kernel
theorem d278_3 : decode prog_14_method_85_code 3 = .ok (.getfield 38, 3) := by decide +kernel
theorem d278_6 : decode prog_14_method_85_code 6 = .ok (.iload_n 1, 1) := by decide +kernel
theorem d278_7 : decode prog_14_method_85_code 7 = .ok (.iaload, 1) := by decide +kernel
theorem d278_8 : decode prog_14_method_85_code 8 = .ok (.istore_n 3, 1) := by decide +kernel
theorem d278_9 : decode prog_14_method_85_code 9 = .ok (.iload_n 3, 1) := by decide +kernel
theorem d278_10 : decode prog_14_method_85_code 10 = .ok (.ifCond .lt 32, 3) := by decide +kernel
theorem d278_13 : decode prog_14_method_85_code 13 = .ok (.iload_n 2, 1) := by decide +kernel
theorem d278_14 : decode prog_14_method_85_code 14 = .ok (.aload_n 0, 1) := by decide +kernel
theorem d278_15 : decode prog_14_method_85_code 15 = .ok (.getfield 29, 3) := by decide +kernel
theorem d278_18 : decode prog_14_method_85_code 18 = .ok (.iload_n 3, 1) := by decide +kernel
theorem d278_19 : decode prog_14_method_85_code 19 = .ok (.iaload, 1) := by decide +kernel
theorem d278_20 : decode prog_14_method_85_code 20 = .ok (.bipush 6, 2) := by decide +kernel
theorem d278_22 : decode prog_14_method_85_code 22 = .ok (.if_icmp .ne 7, 3) := by decide +kernel
theorem d278_25 : decode prog_14_method_85_code 25 = .ok (.iconst 1, 1) := by decide +kernel
theorem d278_26 : decode prog_14_method_85_code 26 = .ok (.goto 4, 3) := by decide +kernel
theorem d278_29 : decode prog_14_method_85_code 29 = .ok (.iconst 0, 1) := by decide +kernel
theorem d278_30 : decode prog_14_method_85_code 30 = .ok (.iadd, 1) := by decide +kernel
theorem d278_31 : decode prog_14_method_85_code 31 = .ok (.istore_n 2, 1) := by decide +kernel
theorem d278_32 : decode prog_14_method_85_code 32 = .ok (.aload_n 0, 1) := by decide +kernel
theorem d278_33 : decode prog_14_method_85_code 33 = .ok (.getfield 44, 3) := by decide +kernel
theorem d278_36 : decode prog_14_method_85_code 36 = .ok (.iload_n 3, 1) := by decide +kernel
theorem d278_37 : decode prog_14_method_85_code 37 = .ok (.iaload, 1) := by decide +kernel
theorem d278_38 : decode prog_14_method_85_code 38 = .ok (.istore_n 3, 1) := by decide +kernel
theorem d278_39 : decode prog_14_method_85_code 39 = .ok (.goto (-30), 3) := by decide +kernel
theorem d278_42 : decode prog_14_method_85_code 42 = .ok (.iload_n 2, 1) := by decide +kernel
theorem d278_43 : decode prog_14_method_85_code 43 = .ok (.ireturn, 1) := by decide +kernel
theorem m278 : pm_m 278 = some (⟨"TypeRulesModel", "namesIn", "(I)I"⟩, prog_14_method_85_code, 4, (some FieldType.int), 10, 1, 11) := rfl
theorem d281_0 : decode prog_14_method_90_code 0 = .ok (.iload_n 0, 1) := by decide +kernel
theorem d281_1 : decode prog_14_method_90_code 1 = .ok (.sipush 256, 3) := by decide +kernel
theorem d281_4 : decode prog_14_method_90_code 4 = .ok (.idiv, 1) := by decide +kernel
theorem d281_5 : decode prog_14_method_90_code 5 = .ok (.istore_n 1, 1) := by decide +kernel
theorem d281_6 : decode prog_14_method_90_code 6 = .ok (.iload_n 0, 1) := by decide +kernel
theorem d281_7 : decode prog_14_method_90_code 7 = .ok (.sipush 256, 3) := by decide +kernel
theorem d281_10 : decode prog_14_method_90_code 10 = .ok (.irem, 1) := by decide +kernel
theorem d281_11 : decode prog_14_method_90_code 11 = .ok (.iload_n 1, 1) := by decide +kernel
theorem d281_12 : decode prog_14_method_90_code 12 = .ok (.iconst 3, 1) := by decide +kernel
theorem d281_13 : decode prog_14_method_90_code 13 = .ok (.if_icmp .ge 11, 3) := by decide +kernel
theorem d281_16 : decode prog_14_method_90_code 16 = .ok (.sipush 256, 3) := by decide +kernel
theorem d281_19 : decode prog_14_method_90_code 19 = .ok (.iload_n 1, 1) := by decide +kernel
theorem d281_20 : decode prog_14_method_90_code 20 = .ok (.imul, 1) := by decide +kernel
theorem d281_21 : decode prog_14_method_90_code 21 = .ok (.goto 13, 3) := by decide +kernel
theorem d281_24 : decode prog_14_method_90_code 24 = .ok (.sipush 768, 3) := by decide +kernel
theorem d281_27 : decode prog_14_method_90_code 27 = .ok (.bipush 64, 2) := by decide +kernel
theorem d281_29 : decode prog_14_method_90_code 29 = .ok (.iload_n 1, 1) := by decide +kernel
theorem d281_30 : decode prog_14_method_90_code 30 = .ok (.iconst 3, 1) := by decide +kernel
theorem d281_31 : decode prog_14_method_90_code 31 = .ok (.isub, 1) := by decide +kernel
theorem d281_32 : decode prog_14_method_90_code 32 = .ok (.imul, 1) := by decide +kernel
theorem d281_33 : decode prog_14_method_90_code 33 = .ok (.iadd, 1) := by decide +kernel
theorem d281_34 : decode prog_14_method_90_code 34 = .ok (.iadd, 1) := by decide +kernel
theorem d281_35 : decode prog_14_method_90_code 35 = .ok (.ireturn, 1) := by decide +kernel
theorem m281 : pm_m 281 = some (⟨"TypeRulesModel", "imageCell", "(I)I"⟩, prog_14_method_90_code, 2, (some FieldType.int), 10, 1, 0) := rfl
theorem d286_0 : decode prog_14_method_87_code 0 = .ok (.aload_n 0, 1) := by decide +kernel
theorem d286_1 : decode prog_14_method_87_code 1 = .ok (.getfield 38, 3) := by decide +kernel
theorem d286_4 : decode prog_14_method_87_code 4 = .ok (.iload_n 1, 1) := by decide +kernel
theorem d286_5 : decode prog_14_method_87_code 5 = .ok (.iaload, 1) := by decide +kernel
theorem d286_6 : decode prog_14_method_87_code 6 = .ok (.istore_n 2, 1) := by decide +kernel
theorem d286_7 : decode prog_14_method_87_code 7 = .ok (.aload_n 0, 1) := by decide +kernel
theorem d286_8 : decode prog_14_method_87_code 8 = .ok (.getfield 44, 3) := by decide +kernel
theorem d286_11 : decode prog_14_method_87_code 11 = .ok (.iload_n 2, 1) := by decide +kernel
theorem d286_12 : decode prog_14_method_87_code 12 = .ok (.iaload, 1) := by decide +kernel
theorem d286_13 : decode prog_14_method_87_code 13 = .ok (.istore_n 3, 1) := by decide +kernel
theorem d286_14 : decode prog_14_method_87_code 14 = .ok (.aload_n 0, 1) := by decide +kernel
theorem d286_15 : decode prog_14_method_87_code 15 = .ok (.getfield 35, 3) := by decide +kernel
theorem d286_18 : decode prog_14_method_87_code 18 = .ok (.iload_n 3, 1) := by decide +kernel
theorem d286_19 : decode prog_14_method_87_code 19 = .ok (.iaload, 1) := by decide +kernel
theorem d286_20 : decode prog_14_method_87_code 20 = .ok (.i2l, 1) := by decide +kernel
theorem d286_21 : decode prog_14_method_87_code 21 = .ok (.aload_n 0, 1) := by decide +kernel
theorem d286_22 : decode prog_14_method_87_code 22 = .ok (.getfield 35, 3) := by decide +kernel
theorem d286_25 : decode prog_14_method_87_code 25 = .ok (.iload_n 2, 1) := by decide +kernel
theorem d286_26 : decode prog_14_method_87_code 26 = .ok (.iaload, 1) := by decide +kernel
theorem d286_27 : decode prog_14_method_87_code 27 = .ok (.i2l, 1) := by decide +kernel
theorem d286_28 : decode prog_14_method_87_code 28 = .ok (.lsub, 1) := by decide +kernel
theorem d286_29 : decode prog_14_method_87_code 29 = .ok (.lconst 1, 1) := by decide +kernel
theorem d286_30 : decode prog_14_method_87_code 30 = .ok (.ladd, 1) := by decide +kernel
theorem d286_31 : decode prog_14_method_87_code 31 = .ok (.lstore 4, 2) := by decide +kernel
theorem d286_33 : decode prog_14_method_87_code 33 = .ok (.aload_n 0, 1) := by decide +kernel
theorem d286_34 : decode prog_14_method_87_code 34 = .ok (.invokevirtual 555, 3) := by decide +kernel
theorem d286_37 : decode prog_14_method_87_code 37 = .ok (.iconst 1, 1) := by decide +kernel
theorem d286_38 : decode prog_14_method_87_code 38 = .ok (.if_icmp .eq 41, 3) := by decide +kernel
theorem d286_41 : decode prog_14_method_87_code 41 = .ok (.aload_n 0, 1) := by decide +kernel
theorem d286_42 : decode prog_14_method_87_code 42 = .ok (.getfield 29, 3) := by decide +kernel
theorem d286_45 : decode prog_14_method_87_code 45 = .ok (.iload_n 2, 1) := by decide +kernel
theorem d286_46 : decode prog_14_method_87_code 46 = .ok (.iaload, 1) := by decide +kernel
theorem d286_47 : decode prog_14_method_87_code 47 = .ok (.bipush 31, 2) := by decide +kernel
theorem d286_49 : decode prog_14_method_87_code 49 = .ok (.if_icmp .eq 30, 3) := by decide +kernel
theorem d286_52 : decode prog_14_method_87_code 52 = .ok (.aload_n 0, 1) := by decide +kernel
theorem d286_53 : decode prog_14_method_87_code 53 = .ok (.getfield 29, 3) := by decide +kernel
theorem d286_56 : decode prog_14_method_87_code 56 = .ok (.iload_n 3, 1) := by decide +kernel
theorem d286_57 : decode prog_14_method_87_code 57 = .ok (.iaload, 1) := by decide +kernel
theorem d286_58 : decode prog_14_method_87_code 58 = .ok (.bipush 31, 2) := by decide +kernel
theorem d286_60 : decode prog_14_method_87_code 60 = .ok (.if_icmp .eq 19, 3) := by decide +kernel
theorem d286_63 : decode prog_14_method_87_code 63 = .ok (.lload 4, 2) := by decide +kernel
theorem d286_65 : decode prog_14_method_87_code 65 = .ok (.lconst 1, 1) := by decide +kernel
theorem d286_66 : decode prog_14_method_87_code 66 = .ok (.lcmp, 1) := by decide +kernel
theorem d286_67 : decode prog_14_method_87_code 67 = .ok (.ifCond .lt 12, 3) := by decide +kernel
theorem d286_70 : decode prog_14_method_87_code 70 = .ok (.lload 4, 2) := by decide +kernel
theorem d286_72 : decode prog_14_method_87_code 72 = .ok (.ldc2_w 578, 3) := by decide +kernel
theorem d286_75 : decode prog_14_method_87_code 75 = .ok (.lcmp, 1) := by decide +kernel
theorem d286_76 : decode prog_14_method_87_code 76 = .ok (.ifCond .le 8, 3) := by decide +kernel
theorem d286_79 : decode prog_14_method_87_code 79 = .ok (.bipush 16, 2) := by decide +kernel
theorem d286_81 : decode prog_14_method_87_code 81 = .ok (.goto 4, 3) := by decide +kernel
theorem d286_84 : decode prog_14_method_87_code 84 = .ok (.iconst 0, 1) := by decide +kernel
theorem d286_85 : decode prog_14_method_87_code 85 = .ok (.ireturn, 1) := by decide +kernel
theorem m286 : pm_m 286 = some (⟨"TypeRulesModel", "arrayRule", "(I)I"⟩, prog_14_method_87_code, 6, (some FieldType.int), 10, 1, 11) := rfl
theorem d285_0 : decode prog_14_method_86_code 0 = .ok (.aload_n 0, 1) := by decide +kernel
theorem d285_1 : decode prog_14_method_86_code 1 = .ok (.invokevirtual 555, 3) := by decide +kernel
theorem d285_4 : decode prog_14_method_86_code 4 = .ok (.iconst 3, 1) := by decide +kernel
theorem d285_5 : decode prog_14_method_86_code 5 = .ok (.if_icmp .ne 17, 3) := by decide +kernel
theorem d285_8 : decode prog_14_method_86_code 8 = .ok (.aload_n 0, 1) := by decide +kernel
theorem d285_9 : decode prog_14_method_86_code 9 = .ok (.aload_n 0, 1) := by decide +kernel
theorem d285_10 : decode prog_14_method_86_code 10 = .ok (.getfield 47, 3) := by decide +kernel
theorem d285_13 : decode prog_14_method_86_code 13 = .ok (.iload_n 1, 1) := by decide +kernel
theorem d285_14 : decode prog_14_method_86_code 14 = .ok (.iaload, 1) := by decide +kernel
theorem d285_15 : decode prog_14_method_86_code 15 = .ok (.invokevirtual 575, 3) := by decide +kernel
theorem d285_18 : decode prog_14_method_86_code 18 = .ok (.iconst 1, 1) := by decide +kernel
theorem d285_19 : decode prog_14_method_86_code 19 = .ok (.if_icmp .le 6, 3) := by decide +kernel
theorem d285_22 : decode prog_14_method_86_code 22 = .ok (.bipush 14, 2) := by decide +kernel
theorem d285_24 : decode prog_14_method_86_code 24 = .ok (.ireturn, 1) := by decide +kernel
theorem d285_25 : decode prog_14_method_86_code 25 = .ok (.aload_n 0, 1) := by decide +kernel
theorem d285_26 : decode prog_14_method_86_code 26 = .ok (.getfield 77, 3) := by decide +kernel
theorem d285_29 : decode prog_14_method_86_code 29 = .ok (.aload_n 0, 1) := by decide +kernel
theorem d285_30 : decode prog_14_method_86_code 30 = .ok (.getfield 542, 3) := by decide +kernel
theorem d285_33 : decode prog_14_method_86_code 33 = .ok (.iconst 1, 1) := by decide +kernel
theorem d285_34 : decode prog_14_method_86_code 34 = .ok (.isub, 1) := by decide +kernel
theorem d285_35 : decode prog_14_method_86_code 35 = .ok (.iaload, 1) := by decide +kernel
theorem d285_36 : decode prog_14_method_86_code 36 = .ok (.istore_n 2, 1) := by decide +kernel
theorem d285_37 : decode prog_14_method_86_code 37 = .ok (.iload_n 2, 1) := by decide +kernel
theorem d285_38 : decode prog_14_method_86_code 38 = .ok (.aload_n 0, 1) := by decide +kernel
theorem d285_39 : decode prog_14_method_86_code 39 = .ok (.getfield 80, 3) := by decide +kernel
theorem d285_42 : decode prog_14_method_86_code 42 = .ok (.aload_n 0, 1) := by decide +kernel
theorem d285_43 : decode prog_14_method_86_code 43 = .ok (.getfield 542, 3) := by decide +kernel
theorem d285_46 : decode prog_14_method_86_code 46 = .ok (.iconst 1, 1) := by decide +kernel
theorem d285_47 : decode prog_14_method_86_code 47 = .ok (.isub, 1) := by decide +kernel
theorem d285_48 : decode prog_14_method_86_code 48 = .ok (.iaload, 1) := by decide +kernel
theorem d285_49 : decode prog_14_method_86_code 49 = .ok (.if_icmp .ge 27, 3) := by decide +kernel
theorem d285_52 : decode prog_14_method_86_code 52 = .ok (.aload_n 0, 1) := by decide +kernel
theorem d285_53 : decode prog_14_method_86_code 53 = .ok (.getfield 101, 3) := by decide +kernel
theorem d285_56 : decode prog_14_method_86_code 56 = .ok (.iload_n 2, 1) := by decide +kernel
theorem d285_57 : decode prog_14_method_86_code 57 = .ok (.iaload, 1) := by decide +kernel
theorem d285_58 : decode prog_14_method_86_code 58 = .ok (.aload_n 0, 1) := by decide +kernel
theorem d285_59 : decode prog_14_method_86_code 59 = .ok (.getfield 35, 3) := by decide +kernel
theorem d285_62 : decode prog_14_method_86_code 62 = .ok (.iload_n 1, 1) := by decide +kernel
theorem d285_63 : decode prog_14_method_86_code 63 = .ok (.iaload, 1) := by decide +kernel
theorem d285_64 : decode prog_14_method_86_code 64 = .ok (.if_icmp .ne 6, 3) := by decide +kernel
theorem d285_67 : decode prog_14_method_86_code 67 = .ok (.bipush 14, 2) := by decide +kernel
theorem d285_69 : decode prog_14_method_86_code 69 = .ok (.ireturn, 1) := by decide +kernel
theorem d285_70 : decode prog_14_method_86_code 70 = .ok (.iinc 2 1, 3) := by decide +kernel
theorem d285_73 : decode prog_14_method_86_code 73 = .ok (.goto (-36), 3) := by decide +kernel
theorem d285_76 : decode prog_14_method_86_code 76 = .ok (.iconst 0, 1) := by decide +kernel
theorem d285_77 : decode prog_14_method_86_code 77 = .ok (.ireturn, 1) := by decide +kernel
theorem m285 : pm_m 285 = some (⟨"TypeRulesModel", "placeRule", "(I)I"⟩, prog_14_method_86_code, 3, (some FieldType.int), 10, 1, 11) := rfl
/-! DECLARATIONS of the reference -/
theorem re281 {d : Nat} {σ : pm_S} {Q : Option Value → pm_S → Prop} {ar o : Nat} (ha : ar < 6) (ho : o < 256) (hQ : Q (some (.int (nI (rl_img (nI (256 * ar + o)))))) σ) : pm_call pm_Y0 (d + 1) 281 [.int (nI (256 * ar + o))] σ Q := by
  have e1 : nI (256 * ar + o) / 256 = nI ar := by rw [show nI (256 * ar + o) / 256 = nI ((256 * ar + o) / 256) from nI_dv (b := 256) (by omega) (by decide), show (256 * ar + o) / 256 = ar by omega]
  have e2 : nI (256 * ar + o) - nI ar * 256 = nI o := by rw [show nI ar * 256 = nI (ar * 256) from nI_ml ar 256, nI_sbl (by omega)]; congr 1; omega
  have ei : rl_img (nI (256 * ar + o)) = o + (if ar < 3 then 256 * ar else 768 + 64 * (ar - 3)) := by
    unfold rl_img
    rw [pl_ar ha ho, nI_clamp (by omega)]
    congr 1; omega
  have ea := nI_toInt (n := ar) (by omega)
  rw [ei] at hQ
  refine wq_m m281 (Nat.le_of_ble_eq_true rfl) (by decide) rfl ?_
  refine wq_l 1 d281_0 rfl rfl rfl rfl ?_
  refine wq_k 4 256 d281_1 (by decide) rfl ?_
  refine wq_dv 5 d281_4 rfl rfl (by decide) ?_
  rw [e1]
  refine wq_s 6 d281_5 rfl rfl (Nat.le_of_ble_eq_true rfl) rfl rfl ?_
  refine wq_l 7 d281_6 rfl rfl rfl rfl ?_
  refine wq_k 10 256 d281_7 (by decide) rfl ?_
  refine wq_dv 11 d281_10 rfl rfl (by decide) ?_
  rw [e1, e2]
  refine wq_l 12 d281_11 rfl rfl rfl rfl ?_
  refine wq_k 13 3 d281_12 (by decide) rfl ?_
  refine wq_b 24 16 d281_13 rfl (by decide) rfl (fun c13 => ?_) (fun c13 => ?_)
  · -- pc 24
    refine wq_k 27 768 d281_24 (by decide) rfl ?_
    refine wq_k 29 64 d281_27 (by decide) rfl ?_
    refine wq_l 30 d281_29 rfl rfl rfl rfl ?_
    refine wq_k 31 3 d281_30 (by decide) rfl ?_
    refine wq_a 32 d281_31 rfl rfl ?_
    refine wq_a 33 d281_32 rfl rfl ?_
    refine wq_a 34 d281_33 rfl rfl ?_
    refine wq_a 35 d281_34 rfl rfl ?_
    refine wq_ri d281_35 (rfl) ?_
    have a3 : 3 ≤ ar := by rw [i_le, ea] at c13; have c13 : (3 : Int) ≤ _ := c13; omega
    rw [if_neg (by omega)] at hQ
    rw [show nI ar - 3 = nI (ar - 3) from nI_sbl (b := 3) a3, show (64 : Int32) * nI (ar - 3) = nI (64 * (ar - 3)) from nI_ml 64 _, show (768 : Int32) + nI (64 * (ar - 3)) = nI (768 + 64 * (ar - 3)) from nI_ad 768 _, nI_ad]
    exact hQ
  · -- pc 16
    refine wq_k 19 256 d281_16 (by decide) rfl ?_
    refine wq_l 20 d281_19 rfl rfl rfl rfl ?_
    refine wq_a 21 d281_20 rfl rfl ?_
    refine wq_g 34 d281_21 (by decide) ?_
    refine wq_a 35 d281_34 rfl rfl ?_
    refine wq_ri d281_35 (rfl) ?_
    have a3 : ar < 3 := by rw [i_le, ea] at c13; have c13 : ¬ (3 : Int) ≤ _ := c13; omega
    rw [if_pos a3] at hQ
    rw [show (256 : Int32) * nI ar = nI (256 * ar) from nI_ml 256 _, nI_ad]
    exact hQ
theorem re278l {d : Nat} {l : List pg_N} {a : Nat → Nat} {R : Int32 → Int32 → Prop} {σ0 σ : pm_S} {fl : Bool} {u : Nat} {A : rl_A} {Q : Option Value → pm_S → Prop} {NN i : Nat} (hG : lg_G l NN) (h : rr_I l a R σ0 σ fl u A) (hi : i < l.length) : ∀ (n c k : Nat), (rl_row l c (i + rl_z l i)).length = n → rl_cl l c (i + rl_z l i) → (∀ x ∈ rl_row l c (i + rl_z l i), x ∈ rl_c l i) → Q (some (.int (nI (k + ((rl_row l c (i + rl_z l i)).filter (fun c => rl_k l c == 6)).length)))) σ → pm_WP pm_Y0 (pm_call pm_Y0 (d)) 10 prog_14_method_85_code (some FieldType.int) Q 9 [.ref 10, .int (nI (a i)), .int (nI k), .int (if c < i + rl_z l i then nI (a c) else -1)] [] σ := by
  obtain ⟨z1, z2, z3⟩ := lg_cl hG hi
  intro n
  induction n with
  | zero =>
    intro c k hn hc hm hQ
    have q : ¬ c < i + rl_z l i := fun q => by rw [rl_rowu z1 hc q] at hn; exact absurd hn (by simp)
    rw [if_neg q]
    rw [rl_row0 q] at hQ
    refine wq_l 10 d278_9 rfl rfl rfl rfl ?_
    refine wq_b 42 13 d278_10 rfl (by decide) rfl (fun c10 => ?_) (fun c10 => absurd (by decide) c10)
    refine wq_l 43 d278_42 rfl rfl rfl rfl ?_
    refine wq_ri d278_43 (rfl) ?_
    exact hQ
  | succ n ih =>
    intro c k hn hc hm hQ
    have q : c < i + rl_z l i := by
      rcases Nat.lt_or_ge c (i + rl_z l i) with w | w
      · exact w
      · rw [rl_row0 (by omega)] at hn; exact absurd hn (by simp)
    have er := rl_rowu z1 hc q
    obtain ⟨c1, c2, c3⟩ := rl_clz hc q
    have mc : c ∈ rl_c l i := hm c (by rw [er]; exact List.mem_cons_self)
    have cl : c < l.length := by omega
    have bc := rt_b (rr_T h) cl
    have nc := rt_n (rr_T h) hG hi mc
    have nn := rt_nn (rr_T h) cl
    have kk := (lg_V hG cl).1
    rw [if_pos q]
    rw [er] at hQ
    have hn' : (rl_row l (c + rl_z l c) (i + rl_z l i)).length = n := by rw [er, List.length_cons] at hn; omega
    have hm' : ∀ x ∈ rl_row l (c + rl_z l c) (i + rl_z l i), x ∈ rl_c l i := fun x hx => hm x (by rw [er]; exact List.mem_cons_of_mem _ hx)
    refine wq_l 10 d278_9 rfl rfl rfl rfl ?_
    refine wq_b 42 13 d278_10 rfl (by decide) rfl (fun c10 => absurd c10 (nn)) (fun c10 => ?_)
    refine wq_l 14 d278_13 rfl rfl rfl rfl ?_
    refine wq_l 15 d278_14 rfl rfl rfl rfl ?_
    refine wq_gr (ci := 10) (j := 16) (q := 49) 18 d278_15 rfl rfl rfl rfl ?_
    refine wq_l 19 d278_18 rfl rfl rfl rfl ?_
    refine wq_al 20 d278_19 rfl rfl rfl (bc) ?_
    rw [rt_k (rr_T h) cl]
    refine wq_k 22 6 d278_20 (by decide) rfl ?_
    refine wq_b 29 25 d278_22 rfl (by decide) rfl (fun c22 => ?_) (fun c22 => ?_)
    · -- pc 29
      refine wq_k 30 0 d278_29 (by decide) rfl ?_
      refine wq_a 31 d278_30 rfl rfl ?_
      refine wq_s 32 d278_31 rfl rfl (Nat.le_of_ble_eq_true rfl) rfl rfl ?_
      refine wq_l 33 d278_32 rfl rfl rfl rfl ?_
      refine wq_gr (ci := 10) (j := 21) (q := 54) 36 d278_33 rfl rfl rfl rfl ?_
      refine wq_l 37 d278_36 rfl rfl rfl rfl ?_
      refine wq_al 38 d278_37 rfl rfl rfl (bc) ?_
      rw [nc]
      refine wq_s 39 d278_38 rfl rfl (Nat.le_of_ble_eq_true rfl) rfl rfl ?_
      refine wq_g 9 d278_39 (by decide) ?_
      rw [List.filter_cons_of_neg (fun w => c22 (by rw [beq_iff_eq.mp w]; rfl))] at hQ
      rw [show nI k + 0 = nI k from Int32.add_zero _]
      exact ih (c + rl_z l c) k hn' c3 hm' hQ
    · -- pc 25
      refine wq_k 26 1 d278_25 (by decide) rfl ?_
      refine wq_g 30 d278_26 (by decide) ?_
      refine wq_a 31 d278_30 rfl rfl ?_
      refine wq_s 32 d278_31 rfl rfl (Nat.le_of_ble_eq_true rfl) rfl rfl ?_
      refine wq_l 33 d278_32 rfl rfl rfl rfl ?_
      refine wq_gr (ci := 10) (j := 21) (q := 54) 36 d278_33 rfl rfl rfl rfl ?_
      refine wq_l 37 d278_36 rfl rfl rfl rfl ?_
      refine wq_al 38 d278_37 rfl rfl rfl (bc) ?_
      rw [nc]
      refine wq_s 39 d278_38 rfl rfl (Nat.le_of_ble_eq_true rfl) rfl rfl ?_
      refine wq_g 9 d278_39 (by decide) ?_
      rw [List.filter_cons_of_pos (p := fun c => rl_k l c == 6) (beq_iff_eq.mpr (hp_inj (b := 6) (by omega) (by decide) (Classical.not_not.mp c22))), List.length_cons, show k + (((rl_row l (c + rl_z l c) (i + rl_z l i)).filter (fun c => rl_k l c == 6)).length + 1) = (k + 1) + ((rl_row l (c + rl_z l c) (i + rl_z l i)).filter (fun c => rl_k l c == 6)).length by omega] at hQ
      rw [nI_1]
      exact ih (c + rl_z l c) (k + 1) hn' c3 hm' hQ
theorem re278 {d : Nat} {l : List pg_N} {a : Nat → Nat} {R : Int32 → Int32 → Prop} {σ0 σ : pm_S} {fl : Bool} {u : Nat} {A : rl_A} {Q : Option Value → pm_S → Prop} {NN i : Nat} (hG : lg_G l NN) (h : rr_I l a R σ0 σ fl u A) (hi : i < l.length) (hQ : Q (some (.int (nI ((rl_c l i).filter (fun c => rl_k l c == 6)).length))) σ) : pm_call pm_Y0 (d + 1) 278 [.ref 10, .int (nI (a i))] σ Q := by
  obtain ⟨z1, z2, z3⟩ := lg_cl hG hi
  refine wq_m m278 (Nat.le_of_ble_eq_true rfl) (by decide) rfl ?_
  refine wq_k 1 0 d278_0 (by decide) rfl ?_
  refine wq_s 2 d278_1 rfl rfl (Nat.le_of_ble_eq_true rfl) rfl rfl ?_
  refine wq_l 3 d278_2 rfl rfl rfl rfl ?_
  refine wq_gr (ci := 10) (j := 19) (q := 52) 6 d278_3 rfl rfl rfl rfl ?_
  refine wq_l 7 d278_6 rfl rfl rfl rfl ?_
  refine wq_al 8 d278_7 rfl rfl rfl (rt_b (rr_T h) hi) ?_
  rw [rt_f (rr_T h) hG hi]
  refine wq_s 9 d278_8 rfl rfl (Nat.le_of_ble_eq_true rfl) rfl rfl ?_
  refine re278l hG h hi _ (i + 1) 0 rfl z3 (fun x hx => hx) ?_
  rw [Nat.zero_add]
  exact hQ
theorem re286 {d : Nat} {l : List pg_N} {a : Nat → Nat} {R : Int32 → Int32 → Prop} {σ0 σ : pm_S} {fl : Bool} {u : Nat} {A : rl_A} {Q : Option Value → pm_S → Prop} {NN i : Nat} (hG : lg_G l NN) (h : rr_I l a R σ0 σ fl u A) (hB : A.1 ≠ []) (hp : pv_B A.1) (i0 : i < l.length) (hz : i + 3 < i + rl_z l i) (hc : rl_c l i = [i + 1, i + 2, i + 3]) (hk1 : rl_k l (i + 1) = 30 ∨ rl_k l (i + 1) = 31) (hk2 : rl_k l (i + 2) = 30 ∨ rl_k l (i + 2) = 31) (hQ : rr_Q l a R σ0 fl u (if (rl_cur A).1 = 1 ∨ rl_k l (i + 1) = 31 ∨ rl_k l (i + 2) = 31 ∨ rl_many l i < 1 ∨ 256 < rl_many l i then 16 else 0, A) Q) : pm_call pm_Y0 (d + 2) 286 [.ref 10, .int (nI (a i))] σ Q := by
  have hlz := (lg_cl hG i0).1
  have i1 : i + 1 < l.length := by omega
  have i2 : i + 2 < l.length := by omega
  have T := rr_T h
  have bi := rt_b T i0
  have ef := (rt_f T hG i0).trans (if_pos (by omega))
  have n1 := rt_nx T (q := 0) (e := i + 2) i0 i1 (by rw [hc]; rfl) (by rw [hc]; rfl)
  have nk1 : rp_nk (rl_k l (i + 1)) = false := by rcases hk1 with q | q <;> rw [q] <;> rfl
  have nk2 : rp_nk (rl_k l (i + 2)) = false := by rcases hk2 with q | q <;> rw [q] <;> rfl
  have kc := (pv_cur hp hB).1
  have x1 := lg_32 (rl_v l (i + 1))
  have x2 := lg_32 (rl_v l (i + 2))
  have eM : ((rl_v l (i + 2)).toInt64 - (rl_v l (i + 1)).toInt64 + Int64.ofNat ((1 : Fin 2) : Nat)).toInt = rl_many l i := by
    have e := lg_sb x1.1 x2.1
    unfold rl_many
    unfold lg_31 at x1 x2
    rw [Int64.toInt_add, e, show (Int64.ofNat ((1 : Fin 2) : Nat)).toInt = 1 by decide, Int.bmod_eq_of_le (by omega) (by omega), x1.2, x2.2]
  have z1 : (Int64.ofNat ((1 : Fin 2) : Nat)).toInt = 1 := by decide
  have zm : (256 : Int64).toInt = 256 := by decide
  refine wq_m m286 (Nat.le_of_ble_eq_true rfl) (by decide) rfl ?_
  refine wq_l 1 d286_0 rfl rfl rfl rfl ?_
  refine wq_gr (ci := 10) (j := 19) (q := 52) 4 d286_1 rfl rfl rfl rfl ?_
  refine wq_l 5 d286_4 rfl rfl rfl rfl ?_
  refine wq_al 6 d286_5 rfl rfl rfl (bi) ?_
  rw [ef]
  refine wq_s 7 d286_6 rfl rfl (Nat.le_of_ble_eq_true rfl) rfl rfl ?_
  refine wq_l 8 d286_7 rfl rfl rfl rfl ?_
  refine wq_gr (ci := 10) (j := 21) (q := 54) 11 d286_8 rfl rfl rfl rfl ?_
  refine wq_l 12 d286_11 rfl rfl rfl rfl ?_
  refine wq_al 13 d286_12 rfl rfl rfl (rt_b T i1) ?_
  rw [n1]
  refine wq_s 14 d286_13 rfl rfl (Nat.le_of_ble_eq_true rfl) rfl rfl ?_
  refine wq_l 15 d286_14 rfl rfl rfl rfl ?_
  refine wq_gr (ci := 10) (j := 18) (q := 51) 18 d286_15 rfl rfl rfl rfl ?_
  refine wq_l 19 d286_18 rfl rfl rfl rfl ?_
  refine wq_al 20 d286_19 rfl rfl rfl (rt_b T i2) ?_
  rw [rt_v T i2 nk2]
  refine wq_a 21 d286_20 rfl rfl ?_
  refine wq_l 22 d286_21 rfl rfl rfl rfl ?_
  refine wq_gr (ci := 10) (j := 18) (q := 51) 25 d286_22 rfl rfl rfl rfl ?_
  refine wq_l 26 d286_25 rfl rfl rfl rfl ?_
  refine wq_al 27 d286_26 rfl rfl rfl (rt_b T i1) ?_
  rw [rt_v T i1 nk1]
  refine wq_a 28 d286_27 rfl rfl ?_
  refine wq_a 29 d286_28 rfl rfl ?_
  refine wq_a 30 d286_29 rfl rfl ?_
  refine wq_a 31 d286_30 rfl rfl ?_
  refine wq_s 33 d286_31 rfl rfl (Nat.le_of_ble_eq_true rfl) rfl rfl ?_
  refine wq_l 34 d286_33 rfl rfl rfl rfl ?_
  refine wq_v 37 [] d286_34 rfl rfl m267 rfl rfl (Nat.le_of_ble_eq_true rfl) rfl (re267 h hB ?_)
  refine wq_k 38 1 d286_37 (by decide) rfl ?_
  refine wq_b 79 41 d286_38 rfl (by decide) rfl (fun c38 => ?_) (fun c38 => ?_)
  · -- pc 79
    refine wq_k 81 16 d286_79 (by decide) rfl ?_
    refine wq_g 85 d286_81 (by decide) ?_
    refine wq_ri d286_85 (rfl) ?_
    exact rr_q1 (k := 16) hQ (rr_Fi h) (if_pos (Or.inl (hp_inj (b := 1) (by omega) (by decide) c38))) (by decide)
  · -- pc 41
    refine wq_l 42 d286_41 rfl rfl rfl rfl ?_
    refine wq_gr (ci := 10) (j := 16) (q := 49) 45 d286_42 rfl rfl rfl rfl ?_
    refine wq_l 46 d286_45 rfl rfl rfl rfl ?_
    refine wq_al 47 d286_46 rfl rfl rfl (rt_b T i1) ?_
    rw [rt_k T i1]
    refine wq_k 49 31 d286_47 (by decide) rfl ?_
    refine wq_b 79 52 d286_49 rfl (by decide) rfl (fun c49 => ?_) (fun c49 => ?_)
    · -- pc 79
      refine wq_k 81 16 d286_79 (by decide) rfl ?_
      refine wq_g 85 d286_81 (by decide) ?_
      refine wq_ri d286_85 (rfl) ?_
      exact rr_q1 (k := 16) hQ (rr_Fi h) (if_pos (Or.inr (Or.inl (hp_inj (b := 31) (by omega) (by decide) c49)))) (by decide)
    · -- pc 52
      refine wq_l 53 d286_52 rfl rfl rfl rfl ?_
      refine wq_gr (ci := 10) (j := 16) (q := 49) 56 d286_53 rfl rfl rfl rfl ?_
      refine wq_l 57 d286_56 rfl rfl rfl rfl ?_
      refine wq_al 58 d286_57 rfl rfl rfl (rt_b T i2) ?_
      rw [rt_k T i2]
      refine wq_k 60 31 d286_58 (by decide) rfl ?_
      refine wq_b 79 63 d286_60 rfl (by decide) rfl (fun c60 => ?_) (fun c60 => ?_)
      · -- pc 79
        refine wq_k 81 16 d286_79 (by decide) rfl ?_
        refine wq_g 85 d286_81 (by decide) ?_
        refine wq_ri d286_85 (rfl) ?_
        exact rr_q1 (k := 16) hQ (rr_Fi h) (if_pos (Or.inr (Or.inr (Or.inl (hp_inj (b := 31) (by omega) (by decide) c60))))) (by decide)
      · -- pc 63
        refine wq_l 65 d286_63 rfl rfl rfl rfl ?_
        refine wq_a 66 d286_65 rfl rfl ?_
        refine wq_a 67 d286_66 rfl rfl ?_
        refine wq_b 79 70 d286_67 rfl (by decide) rfl (fun c67 => ?_) (fun c67 => ?_)
        · -- pc 79
          refine wq_k 81 16 d286_79 (by decide) rfl ?_
          refine wq_g 85 d286_81 (by decide) ?_
          refine wq_ri d286_85 (rfl) ?_
          rw [lc_lt, eM, z1] at c67
          exact rr_q1 (k := 16) hQ (rr_Fi h) (if_pos (Or.inr (Or.inr (Or.inr (Or.inl c67))))) (by decide)
        · -- pc 70
          refine wq_l 72 d286_70 rfl rfl rfl rfl ?_
          refine wq_cl 75 d286_72 rfl rfl ?_
          refine wq_a 76 d286_75 rfl rfl ?_
          refine wq_b 84 79 d286_76 rfl (by decide) rfl (fun c76 => ?_) (fun c76 => ?_)
          · -- pc 84
            refine wq_k 85 0 d286_84 (by decide) rfl ?_
            refine wq_ri d286_85 (rfl) ?_
            have c76 := c76
            rw [lc_le, eM] at c76
            have c76 :  (rl_many l i ≤ (256 : Int64).toInt) := c76
            rw [zm] at c76
            rw [lc_lt, eM, z1] at c67
            exact rr_q0 hQ h (if_neg (fun z => z.elim (fun y => c38 (by rw [y]; rfl)) (fun y => y.elim (fun w => c49 (by rw [w]; rfl)) (fun w => w.elim (fun v => c60 (by rw [v]; rfl)) (fun v => by omega)))))
          · -- pc 79
            refine wq_k 81 16 d286_79 (by decide) rfl ?_
            refine wq_g 85 d286_81 (by decide) ?_
            refine wq_ri d286_85 (rfl) ?_
            have c76 := c76
            rw [lc_le, eM] at c76
            have c76 : ¬ (rl_many l i ≤ (256 : Int64).toInt) := c76
            rw [zm] at c76
            exact rr_q1 (k := 16) hQ (rr_Fi h) (if_pos (Or.inr (Or.inr (Or.inr (Or.inr (by omega)))))) (by decide)
/-- a place is known of the newest variable: the reference's state says it later -/
theorem rr_atp {l : List pg_N} {a : Nat → Nat} {R : Int32 → Int32 → Prop} {σ0 σ : pm_S} {fl : Bool} {u : Nat} {y : rl_B} {r : List rl_B} {T : (Nat → Int32) × (Nat → Int32) × (Nat → Int32)} {v0 : rl_V} {vs : List rl_V} {x : Int32} (h : rr_I l a R σ0 σ fl u (y :: r, T)) (hv : y.2.2.2.2 = v0 :: vs) (h3 : v0.2.1 = 3) : rr_I l a R σ0 σ fl u ((y.1, y.2.1, y.2.2.1, y.2.2.2.1, rl_atp x y.2.2.2.2) :: r, T) := by
  obtain ⟨h0, h1, h2, hD, hb, hv', h6⟩ := h
  have hb : rb_I l a fl (y :: r) σ := hb
  have hv' : rv_I R (rv_L (y :: r)) σ := hv'
  have hD : rr_D l a fl (y :: r, T) σ := hD
  rw [hv]
  have hlen : (rl_atp x (v0 :: vs)).length = (v0 :: vs).length := rfl
  have eL : rv_L (y :: r) = rv_L r ++ vs.reverse ++ [v0] := by
    show rv_L r ++ y.2.2.2.2.reverse = _
    rw [hv, List.reverse_cons, List.append_assoc]
  have eL' : rv_L ((y.1, y.2.1, y.2.2.1, y.2.2.2.1, rl_atp x (v0 :: vs)) :: r) = rv_L r ++ vs.reverse ++ [(v0.1, v0.2.1, v0.2.2.1, v0.2.2.2.1, x, v0.2.2.2.2.2)] := by
    show rv_L r ++ ((v0.1, v0.2.1, v0.2.2.1, v0.2.2.2.1, x, v0.2.2.2.2.2) :: vs).reverse = _
    rw [List.reverse_cons, List.append_assoc]
  refine ⟨h0, h1, h2, hD, ?_, ?_, h6⟩
  · obtain ⟨b1, b2, b3⟩ := hb
    refine ⟨b1, b2, fun b z hz => ?_⟩
    have frE : ∀ b, b ≤ r.length → rv_fr ((y.1, y.2.1, y.2.2.1, y.2.2.2.1, rl_atp x (v0 :: vs)) :: r) b = rv_fr (y :: r) b := fun b hb' => by
      unfold rv_fr
      rw [List.length_cons, List.length_cons, show r.length + 1 - b = (r.length - b) + 1 by omega, List.drop_succ_cons, List.drop_succ_cons]
    rw [rl_blkc] at hz
    by_cases q : b = r.length
    · rw [if_pos q] at hz
      cases hz
      obtain ⟨g1, g2, g3, g4⟩ := b3 b y (by rw [rl_blkc, if_pos q])
      refine ⟨g1, g2, g3, ?_⟩
      unfold rb_at at g4 ⊢
      rw [frE b (by omega)]
      rw [hv] at g4
      exact g4
    · rw [if_neg q] at hz
      have hl := rl_blkl hz
      obtain ⟨g1, g2, g3, g4⟩ := b3 b z (by rw [rl_blkc, if_neg q]; exact hz)
      refine ⟨g1, g2, g3, ?_⟩
      unfold rb_at at g4 ⊢
      rw [frE b (by omega)]
      exact g4
  · obtain ⟨v1, v2, v3⟩ := hv'
    show rv_I R (rv_L ((y.1, y.2.1, y.2.2.1, y.2.2.2.1, rl_atp x (v0 :: vs)) :: r)) σ
    rw [eL] at v1 v2 v3
    rw [eL']
    rw [List.length_append, List.length_singleton] at v1 v2
    refine ⟨by rw [List.length_append, List.length_singleton]; exact v1, by rw [List.length_append, List.length_singleton]; exact v2, fun i v hi => ?_⟩
    by_cases q : i < (rv_L r ++ vs.reverse).length
    · rw [List.getElem?_append_left q] at hi
      exact v3 i v (by rw [List.getElem?_append_left q]; exact hi)
    · rw [List.getElem?_append_right (by omega)] at hi
      have e0 : i - (rv_L r ++ vs.reverse).length = 0 := by
        rcases Nat.eq_zero_or_pos (i - (rv_L r ++ vs.reverse).length) with w | w
        · exact w
        · rw [List.getElem?_eq_none (by rw [List.length_singleton]; omega)] at hi; cases hi
      rw [e0] at hi
      cases hi
      have := v3 i v0 (by rw [List.getElem?_append_right (by omega), e0]; rfl)
      exact ⟨this.1, fun z => absurd h3 z, fun _ => this.2.2 h3⟩
