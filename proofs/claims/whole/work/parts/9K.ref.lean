theorem d258_0 : decode prog_14_method_61_code 0 = .ok (.aload_n 0, 1) := by decide +kernel
theorem d258_1 : decode prog_14_method_61_code 1 = .ok (.getfield 65, 3) := by decide +kernel
theorem d258_4 : decode prog_14_method_61_code 4 = .ok (.aload_n 0, 1) := by decide +kernel
theorem d258_5 : decode prog_14_method_61_code 5 = .ok (.getfield 438, 3) := by decide +kernel
theorem d258_8 : decode prog_14_method_61_code 8 = .ok (.iload_n 1, 1) := by decide +kernel
theorem d258_9 : decode prog_14_method_61_code 9 = .ok (.iastore, 1) := by decide +kernel
theorem d258_10 : decode prog_14_method_61_code 10 = .ok (.aload_n 0, 1) := by decide +kernel
theorem d258_11 : decode prog_14_method_61_code 11 = .ok (.getfield 68, 3) := by decide +kernel
theorem d258_14 : decode prog_14_method_61_code 14 = .ok (.aload_n 0, 1) := by decide +kernel
theorem d258_15 : decode prog_14_method_61_code 15 = .ok (.getfield 438, 3) := by decide +kernel
theorem d258_18 : decode prog_14_method_61_code 18 = .ok (.iload_n 2, 1) := by decide +kernel
theorem d258_19 : decode prog_14_method_61_code 19 = .ok (.iastore, 1) := by decide +kernel
theorem d258_20 : decode prog_14_method_61_code 20 = .ok (.aload_n 0, 1) := by decide +kernel
theorem d258_21 : decode prog_14_method_61_code 21 = .ok (.getfield 71, 3) := by decide +kernel
theorem d258_24 : decode prog_14_method_61_code 24 = .ok (.aload_n 0, 1) := by decide +kernel
theorem d258_25 : decode prog_14_method_61_code 25 = .ok (.getfield 438, 3) := by decide +kernel
theorem d258_28 : decode prog_14_method_61_code 28 = .ok (.iload_n 3, 1) := by decide +kernel
theorem d258_29 : decode prog_14_method_61_code 29 = .ok (.iastore, 1) := by decide +kernel
theorem d258_30 : decode prog_14_method_61_code 30 = .ok (.aload_n 0, 1) := by decide +kernel
theorem d258_31 : decode prog_14_method_61_code 31 = .ok (.dup, 1) := by decide +kernel
theorem d258_32 : decode prog_14_method_61_code 32 = .ok (.getfield 438, 3) := by decide +kernel
theorem d258_35 : decode prog_14_method_61_code 35 = .ok (.iconst 1, 1) := by decide +kernel
theorem d258_36 : decode prog_14_method_61_code 36 = .ok (.iadd, 1) := by decide +kernel
theorem d258_37 : decode prog_14_method_61_code 37 = .ok (.putfield 438, 3) := by decide +kernel
theorem d258_40 : decode prog_14_method_61_code 40 = .ok (.return_, 1) := by decide +kernel
theorem m258 : pm_m 258 = some (⟨"TypeRulesModel", "nestIn", "(III)V"⟩, prog_14_method_61_code, 4, none, 10, 3, 11) := rfl
theorem d257_0 : decode prog_14_method_62_code 0 = .ok (.aload_n 0, 1) := by decide +kernel
theorem d257_1 : decode prog_14_method_62_code 1 = .ok (.getfield 135, 3) := by decide +kernel
theorem d257_4 : decode prog_14_method_62_code 4 = .ok (.ifCond .ne 8, 3) := by decide +kernel
theorem d257_7 : decode prog_14_method_62_code 7 = .ok (.aload_n 0, 1) := by decide +kernel
theorem d257_8 : decode prog_14_method_62_code 8 = .ok (.iload_n 1, 1) := by decide +kernel
theorem d257_9 : decode prog_14_method_62_code 9 = .ok (.invokevirtual 428, 3) := by decide +kernel
theorem d257_12 : decode prog_14_method_62_code 12 = .ok (.aload_n 0, 1) := by decide +kernel
theorem d257_13 : decode prog_14_method_62_code 13 = .ok (.getfield 151, 3) := by decide +kernel
theorem d257_16 : decode prog_14_method_62_code 16 = .ok (.istore_n 2, 1) := by decide +kernel
theorem d257_17 : decode prog_14_method_62_code 17 = .ok (.aload_n 0, 1) := by decide +kernel
theorem d257_18 : decode prog_14_method_62_code 18 = .ok (.bipush 117, 2) := by decide +kernel
theorem d257_20 : decode prog_14_method_62_code 20 = .ok (.invokevirtual 340, 3) := by decide +kernel
theorem d257_23 : decode prog_14_method_62_code 23 = .ok (.aload_n 0, 1) := by decide +kernel
theorem d257_24 : decode prog_14_method_62_code 24 = .ok (.iconst 1, 1) := by decide +kernel
theorem d257_25 : decode prog_14_method_62_code 25 = .ok (.iload_n 1, 1) := by decide +kernel
theorem d257_26 : decode prog_14_method_62_code 26 = .ok (.aload_n 0, 1) := by decide +kernel
theorem d257_27 : decode prog_14_method_62_code 27 = .ok (.iload_n 1, 1) := by decide +kernel
theorem d257_28 : decode prog_14_method_62_code 28 = .ok (.bipush 11, 2) := by decide +kernel
theorem d257_30 : decode prog_14_method_62_code 30 = .ok (.iload_n 2, 1) := by decide +kernel
theorem d257_31 : decode prog_14_method_62_code 31 = .ok (.iconst 0, 1) := by decide +kernel
theorem d257_32 : decode prog_14_method_62_code 32 = .ok (.invokevirtual 349, 3) := by decide +kernel
theorem d257_35 : decode prog_14_method_62_code 35 = .ok (.invokevirtual 441, 3) := by decide +kernel
theorem d257_38 : decode prog_14_method_62_code 38 = .ok (.return_, 1) := by decide +kernel
theorem m257 : pm_m 257 = some (⟨"TypeRulesModel", "condition", "(I)V"⟩, prog_14_method_62_code, 3, none, 10, 1, 11) := rfl
theorem d259_0 : decode prog_14_method_63_code 0 = .ok (.aload_n 0, 1) := by decide +kernel
theorem d259_1 : decode prog_14_method_63_code 1 = .ok (.iload_n 1, 1) := by decide +kernel
theorem d259_2 : decode prog_14_method_63_code 2 = .ok (.bipush 19, 2) := by decide +kernel
theorem d259_4 : decode prog_14_method_63_code 4 = .ok (.aload_n 0, 1) := by decide +kernel
theorem d259_5 : decode prog_14_method_63_code 5 = .ok (.getfield 151, 3) := by decide +kernel
theorem d259_8 : decode prog_14_method_63_code 8 = .ok (.iconst 0, 1) := by decide +kernel
theorem d259_9 : decode prog_14_method_63_code 9 = .ok (.invokevirtual 349, 3) := by decide +kernel
theorem d259_12 : decode prog_14_method_63_code 12 = .ok (.istore_n 2, 1) := by decide +kernel
theorem d259_13 : decode prog_14_method_63_code 13 = .ok (.aload_n 0, 1) := by decide +kernel
theorem d259_14 : decode prog_14_method_63_code 14 = .ok (.invokevirtual 400, 3) := by decide +kernel
theorem d259_17 : decode prog_14_method_63_code 17 = .ok (.aload_n 0, 1) := by decide +kernel
theorem d259_18 : decode prog_14_method_63_code 18 = .ok (.getfield 135, 3) := by decide +kernel
theorem d259_21 : decode prog_14_method_63_code 21 = .ok (.ifCond .ne 13, 3) := by decide +kernel
theorem d259_24 : decode prog_14_method_63_code 24 = .ok (.aload_n 0, 1) := by decide +kernel
theorem d259_25 : decode prog_14_method_63_code 25 = .ok (.getfield 35, 3) := by decide +kernel
theorem d259_28 : decode prog_14_method_63_code 28 = .ok (.iload_n 2, 1) := by decide +kernel
theorem d259_29 : decode prog_14_method_63_code 29 = .ok (.aload_n 0, 1) := by decide +kernel
theorem d259_30 : decode prog_14_method_63_code 30 = .ok (.invokevirtual 356, 3) := by decide +kernel
theorem d259_33 : decode prog_14_method_63_code 33 = .ok (.iastore, 1) := by decide +kernel
theorem d259_34 : decode prog_14_method_63_code 34 = .ok (.aload_n 0, 1) := by decide +kernel
theorem d259_35 : decode prog_14_method_63_code 35 = .ok (.sipush 400, 3) := by decide +kernel
theorem d259_38 : decode prog_14_method_63_code 38 = .ok (.invokevirtual 340, 3) := by decide +kernel
theorem d259_41 : decode prog_14_method_63_code 41 = .ok (.aload_n 0, 1) := by decide +kernel
theorem d259_42 : decode prog_14_method_63_code 42 = .ok (.iload_n 2, 1) := by decide +kernel
theorem d259_43 : decode prog_14_method_63_code 43 = .ok (.invokevirtual 444, 3) := by decide +kernel
theorem d259_46 : decode prog_14_method_63_code 46 = .ok (.aload_n 0, 1) := by decide +kernel
theorem d259_47 : decode prog_14_method_63_code 47 = .ok (.bipush 124, 2) := by decide +kernel
theorem d259_49 : decode prog_14_method_63_code 49 = .ok (.invokevirtual 340, 3) := by decide +kernel
theorem d259_52 : decode prog_14_method_63_code 52 = .ok (.aload_n 0, 1) := by decide +kernel
theorem d259_53 : decode prog_14_method_63_code 53 = .ok (.iload_n 2, 1) := by decide +kernel
theorem d259_54 : decode prog_14_method_63_code 54 = .ok (.invokevirtual 444, 3) := by decide +kernel
theorem d259_57 : decode prog_14_method_63_code 57 = .ok (.aload_n 0, 1) := by decide +kernel
theorem d259_58 : decode prog_14_method_63_code 58 = .ok (.bipush 125, 2) := by decide +kernel
theorem d259_60 : decode prog_14_method_63_code 60 = .ok (.invokevirtual 353, 3) := by decide +kernel
theorem d259_63 : decode prog_14_method_63_code 63 = .ok (.ifCond .eq 8, 3) := by decide +kernel
theorem d259_66 : decode prog_14_method_63_code 66 = .ok (.aload_n 0, 1) := by decide +kernel
theorem d259_67 : decode prog_14_method_63_code 67 = .ok (.iload_n 2, 1) := by decide +kernel
theorem d259_68 : decode prog_14_method_63_code 68 = .ok (.invokevirtual 444, 3) := by decide +kernel
theorem d259_71 : decode prog_14_method_63_code 71 = .ok (.aload_n 0, 1) := by decide +kernel
theorem d259_72 : decode prog_14_method_63_code 72 = .ok (.getfield 151, 3) := by decide +kernel
theorem d259_75 : decode prog_14_method_63_code 75 = .ok (.istore_n 3, 1) := by decide +kernel
theorem d259_76 : decode prog_14_method_63_code 76 = .ok (.aload_n 0, 1) := by decide +kernel
theorem d259_77 : decode prog_14_method_63_code 77 = .ok (.bipush 126, 2) := by decide +kernel
theorem d259_79 : decode prog_14_method_63_code 79 = .ok (.invokevirtual 340, 3) := by decide +kernel
theorem d259_82 : decode prog_14_method_63_code 82 = .ok (.aload_n 0, 1) := by decide +kernel
theorem d259_83 : decode prog_14_method_63_code 83 = .ok (.bipush 6, 2) := by decide +kernel
theorem d259_85 : decode prog_14_method_63_code 85 = .ok (.iload_n 2, 1) := by decide +kernel
theorem d259_86 : decode prog_14_method_63_code 86 = .ok (.aload_n 0, 1) := by decide +kernel
theorem d259_87 : decode prog_14_method_63_code 87 = .ok (.iload_n 2, 1) := by decide +kernel
theorem d259_88 : decode prog_14_method_63_code 88 = .ok (.bipush 11, 2) := by decide +kernel
theorem d259_90 : decode prog_14_method_63_code 90 = .ok (.iload_n 3, 1) := by decide +kernel
theorem d259_91 : decode prog_14_method_63_code 91 = .ok (.iconst 0, 1) := by decide +kernel
theorem d259_92 : decode prog_14_method_63_code 92 = .ok (.invokevirtual 349, 3) := by decide +kernel
theorem d259_95 : decode prog_14_method_63_code 95 = .ok (.invokevirtual 441, 3) := by decide +kernel
theorem d259_98 : decode prog_14_method_63_code 98 = .ok (.return_, 1) := by decide +kernel
theorem m259 : pm_m 259 = some (⟨"TypeRulesModel", "loop", "(I)V"⟩, prog_14_method_63_code, 4, none, 10, 1, 11) := rfl
theorem d263_0 : decode prog_14_method_65_code 0 = .ok (.aload_n 0, 1) := by decide +kernel
theorem d263_1 : decode prog_14_method_65_code 1 = .ok (.iload_n 1, 1) := by decide +kernel
theorem d263_2 : decode prog_14_method_65_code 2 = .ok (.bipush 17, 2) := by decide +kernel
theorem d263_4 : decode prog_14_method_65_code 4 = .ok (.aload_n 0, 1) := by decide +kernel
theorem d263_5 : decode prog_14_method_65_code 5 = .ok (.getfield 151, 3) := by decide +kernel
theorem d263_8 : decode prog_14_method_65_code 8 = .ok (.iconst 0, 1) := by decide +kernel
theorem d263_9 : decode prog_14_method_65_code 9 = .ok (.invokevirtual 349, 3) := by decide +kernel
theorem d263_12 : decode prog_14_method_65_code 12 = .ok (.istore_n 2, 1) := by decide +kernel
theorem d263_13 : decode prog_14_method_65_code 13 = .ok (.iconst 1, 1) := by decide +kernel
theorem d263_14 : decode prog_14_method_65_code 14 = .ok (.istore_n 3, 1) := by decide +kernel
theorem d263_15 : decode prog_14_method_65_code 15 = .ok (.iload_n 3, 1) := by decide +kernel
theorem d263_16 : decode prog_14_method_65_code 16 = .ok (.ifCond .eq 57, 3) := by decide +kernel
theorem d263_19 : decode prog_14_method_65_code 19 = .ok (.aload_n 0, 1) := by decide +kernel
theorem d263_20 : decode prog_14_method_65_code 20 = .ok (.getfield 135, 3) := by decide +kernel
theorem d263_23 : decode prog_14_method_65_code 23 = .ok (.ifCond .ne 50, 3) := by decide +kernel
theorem d263_26 : decode prog_14_method_65_code 26 = .ok (.aload_n 0, 1) := by decide +kernel
theorem d263_27 : decode prog_14_method_65_code 27 = .ok (.iload_n 2, 1) := by decide +kernel
theorem d263_28 : decode prog_14_method_65_code 28 = .ok (.bipush 18, 2) := by decide +kernel
theorem d263_30 : decode prog_14_method_65_code 30 = .ok (.aload_n 0, 1) := by decide +kernel
theorem d263_31 : decode prog_14_method_65_code 31 = .ok (.getfield 151, 3) := by decide +kernel
theorem d263_34 : decode prog_14_method_65_code 34 = .ok (.iconst 0, 1) := by decide +kernel
theorem d263_35 : decode prog_14_method_65_code 35 = .ok (.invokevirtual 349, 3) := by decide +kernel
theorem d263_38 : decode prog_14_method_65_code 38 = .ok (.istore 4, 2) := by decide +kernel
theorem d263_40 : decode prog_14_method_65_code 40 = .ok (.aload_n 0, 1) := by decide +kernel
theorem d263_41 : decode prog_14_method_65_code 41 = .ok (.iload 4, 2) := by decide +kernel
theorem d263_43 : decode prog_14_method_65_code 43 = .ok (.invokevirtual 360, 3) := by decide +kernel
theorem d263_46 : decode prog_14_method_65_code 46 = .ok (.aload_n 0, 1) := by decide +kernel
theorem d263_47 : decode prog_14_method_65_code 47 = .ok (.sipush 401, 3) := by decide +kernel
theorem d263_50 : decode prog_14_method_65_code 50 = .ok (.invokevirtual 353, 3) := by decide +kernel
theorem d263_53 : decode prog_14_method_65_code 53 = .ok (.ifCond .eq 9, 3) := by decide +kernel
theorem d263_56 : decode prog_14_method_65_code 56 = .ok (.aload_n 0, 1) := by decide +kernel
theorem d263_57 : decode prog_14_method_65_code 57 = .ok (.iload 4, 2) := by decide +kernel
theorem d263_59 : decode prog_14_method_65_code 59 = .ok (.invokevirtual 444, 3) := by decide +kernel
theorem d263_62 : decode prog_14_method_65_code 62 = .ok (.aload_n 0, 1) := by decide +kernel
theorem d263_63 : decode prog_14_method_65_code 63 = .ok (.sipush 244, 3) := by decide +kernel
theorem d263_66 : decode prog_14_method_65_code 66 = .ok (.invokevirtual 353, 3) := by decide +kernel
theorem d263_69 : decode prog_14_method_65_code 69 = .ok (.istore_n 3, 1) := by decide +kernel
theorem d263_70 : decode prog_14_method_65_code 70 = .ok (.goto (-55), 3) := by decide +kernel
theorem d263_73 : decode prog_14_method_65_code 73 = .ok (.aload_n 0, 1) := by decide +kernel
theorem d263_74 : decode prog_14_method_65_code 74 = .ok (.getfield 151, 3) := by decide +kernel
theorem d263_77 : decode prog_14_method_65_code 77 = .ok (.istore 4, 2) := by decide +kernel
theorem d263_79 : decode prog_14_method_65_code 79 = .ok (.aload_n 0, 1) := by decide +kernel
theorem d263_80 : decode prog_14_method_65_code 80 = .ok (.sipush 258, 3) := by decide +kernel
theorem d263_83 : decode prog_14_method_65_code 83 = .ok (.invokevirtual 340, 3) := by decide +kernel
theorem d263_86 : decode prog_14_method_65_code 86 = .ok (.aload_n 0, 1) := by decide +kernel
theorem d263_87 : decode prog_14_method_65_code 87 = .ok (.iconst 4, 1) := by decide +kernel
theorem d263_88 : decode prog_14_method_65_code 88 = .ok (.iload_n 1, 1) := by decide +kernel
theorem d263_89 : decode prog_14_method_65_code 89 = .ok (.aload_n 0, 1) := by decide +kernel
theorem d263_90 : decode prog_14_method_65_code 90 = .ok (.iload_n 2, 1) := by decide +kernel
theorem d263_91 : decode prog_14_method_65_code 91 = .ok (.bipush 11, 2) := by decide +kernel
theorem d263_93 : decode prog_14_method_65_code 93 = .ok (.iload 4, 2) := by decide +kernel
theorem d263_95 : decode prog_14_method_65_code 95 = .ok (.iconst 0, 1) := by decide +kernel
theorem d263_96 : decode prog_14_method_65_code 96 = .ok (.invokevirtual 349, 3) := by decide +kernel
theorem d263_99 : decode prog_14_method_65_code 99 = .ok (.invokevirtual 441, 3) := by decide +kernel
theorem d263_102 : decode prog_14_method_65_code 102 = .ok (.return_, 1) := by decide +kernel
theorem m263 : pm_m 263 = some (⟨"TypeRulesModel", "choice", "(I)V"⟩, prog_14_method_65_code, 5, none, 10, 1, 11) := rfl
theorem d264_0 : decode prog_14_method_66_code 0 = .ok (.aload_n 0, 1) := by decide +kernel
theorem d264_1 : decode prog_14_method_66_code 1 = .ok (.invokevirtual 334, 3) := by decide +kernel
theorem d264_4 : decode prog_14_method_66_code 4 = .ok (.aload_n 0, 1) := by decide +kernel
theorem d264_5 : decode prog_14_method_66_code 5 = .ok (.dup, 1) := by decide +kernel
theorem d264_6 : decode prog_14_method_66_code 6 = .ok (.getfield 438, 3) := by decide +kernel
theorem d264_9 : decode prog_14_method_66_code 9 = .ok (.iconst 1, 1) := by decide +kernel
theorem d264_10 : decode prog_14_method_66_code 10 = .ok (.isub, 1) := by decide +kernel
theorem d264_11 : decode prog_14_method_66_code 11 = .ok (.putfield 438, 3) := by decide +kernel
theorem d264_14 : decode prog_14_method_66_code 14 = .ok (.aload_n 0, 1) := by decide +kernel
theorem d264_15 : decode prog_14_method_66_code 15 = .ok (.dup, 1) := by decide +kernel
theorem d264_16 : decode prog_14_method_66_code 16 = .ok (.getfield 343, 3) := by decide +kernel
theorem d264_19 : decode prog_14_method_66_code 19 = .ok (.iconst 1, 1) := by decide +kernel
theorem d264_20 : decode prog_14_method_66_code 20 = .ok (.isub, 1) := by decide +kernel
theorem d264_21 : decode prog_14_method_66_code 21 = .ok (.putfield 343, 3) := by decide +kernel
theorem d264_24 : decode prog_14_method_66_code 24 = .ok (.aload_n 0, 1) := by decide +kernel
theorem d264_25 : decode prog_14_method_66_code 25 = .ok (.sipush 259, 3) := by decide +kernel
theorem d264_28 : decode prog_14_method_66_code 28 = .ok (.invokevirtual 340, 3) := by decide +kernel
theorem d264_31 : decode prog_14_method_66_code 31 = .ok (.return_, 1) := by decide +kernel
theorem m264 : pm_m 264 = some (⟨"TypeRulesModel", "close", "()V"⟩, prog_14_method_66_code, 1, none, 10, 0, 11) := rfl
theorem d262_0 : decode prog_14_method_38_code 0 = .ok (.aload_n 0, 1) := by decide +kernel
theorem d262_1 : decode prog_14_method_38_code 1 = .ok (.bipush 45, 2) := by decide +kernel
theorem d262_3 : decode prog_14_method_38_code 3 = .ok (.invokevirtual 346, 3) := by decide +kernel
theorem d262_6 : decode prog_14_method_38_code 6 = .ok (.ifCond .ne 31, 3) := by decide +kernel
theorem d262_9 : decode prog_14_method_38_code 9 = .ok (.aload_n 0, 1) := by decide +kernel
theorem d262_10 : decode prog_14_method_38_code 10 = .ok (.iconst 2, 1) := by decide +kernel
theorem d262_11 : decode prog_14_method_38_code 11 = .ok (.invokevirtual 331, 3) := by decide +kernel
theorem d262_14 : decode prog_14_method_38_code 14 = .ok (.ifCond .ne 23, 3) := by decide +kernel
theorem d262_17 : decode prog_14_method_38_code 17 = .ok (.aload_n 0, 1) := by decide +kernel
theorem d262_18 : decode prog_14_method_38_code 18 = .ok (.sipush 135, 3) := by decide +kernel
theorem d262_21 : decode prog_14_method_38_code 21 = .ok (.invokevirtual 331, 3) := by decide +kernel
theorem d262_24 : decode prog_14_method_38_code 24 = .ok (.ifCond .ne 13, 3) := by decide +kernel
theorem d262_27 : decode prog_14_method_38_code 27 = .ok (.aload_n 0, 1) := by decide +kernel
theorem d262_28 : decode prog_14_method_38_code 28 = .ok (.sipush 136, 3) := by decide +kernel
theorem d262_31 : decode prog_14_method_38_code 31 = .ok (.invokevirtual 331, 3) := by decide +kernel
theorem d262_34 : decode prog_14_method_38_code 34 = .ok (.ifCond .eq 7, 3) := by decide +kernel
theorem d262_37 : decode prog_14_method_38_code 37 = .ok (.iconst 1, 1) := by decide +kernel
theorem d262_38 : decode prog_14_method_38_code 38 = .ok (.goto 4, 3) := by decide +kernel
theorem d262_41 : decode prog_14_method_38_code 41 = .ok (.iconst 0, 1) := by decide +kernel
theorem d262_42 : decode prog_14_method_38_code 42 = .ok (.ireturn, 1) := by decide +kernel
theorem m262 : pm_m 262 = some (⟨"TypeRulesModel", "isConstant", "()Z"⟩, prog_14_method_38_code, 1, (some FieldType.boolean), 10, 0, 11) := rfl
/-! the nest -/
theorem sp258 {d : Nat} {σ : pm_S} {Q : Option Value → pm_S → Prop} {k : Nat} {w a b : Int32} (h34 : σ.1 10 34 = nI k) (hk : k < 70) (hQ : Q none (xs_ps σ k w a b)) : pm_call pm_Y0 (d + 1) 258 [.ref 10, .int w, .int a, .int b] σ Q := by
  have ek := nI_toInt (n := k) (by omega)
  have ck := nI_clamp (n := k) (by omega)
  refine wq_m m258 (Nat.le_of_ble_eq_true rfl) (by decide) rfl ?_
  refine wq_l 1 d258_0 rfl rfl rfl rfl ?_
  refine wq_gr (ci := 10) (j := 31) (q := 61) 4 d258_1 rfl rfl rfl rfl ?_
  refine wq_l 5 d258_4 rfl rfl rfl rfl ?_
  refine wq_gi (ci := 10) (j := 34) 8 d258_5 rfl rfl rfl rfl ?_
  first | rw [h34] | simp only [pm_r1r, h34]
  refine wq_l 9 d258_8 rfl rfl rfl rfl ?_
  refine wq_as 10 d258_9 rfl rfl rfl (vp_in_iff.mpr (by simp only [i_lt, i_le, i_eq, ne_eq, Int32.reduceToInt, b2_0, b2_1, decide_eq_true_eq, decide_eq_false_iff_not, Bool.not_eq_true, Bool.not_eq_false, ek] at * <;> omega)) ?_
  rw [ck]
  refine wq_l 11 d258_10 rfl rfl rfl rfl ?_
  refine wq_gr (ci := 10) (j := 32) (q := 62) 14 d258_11 rfl rfl rfl rfl ?_
  refine wq_l 15 d258_14 rfl rfl rfl rfl ?_
  refine wq_gi (ci := 10) (j := 34) 18 d258_15 rfl rfl rfl rfl ?_
  first | rw [h34] | simp only [pm_r1r, h34]
  refine wq_l 19 d258_18 rfl rfl rfl rfl ?_
  refine wq_as 20 d258_19 rfl rfl rfl (vp_in_iff.mpr (by simp only [i_lt, i_le, i_eq, ne_eq, Int32.reduceToInt, b2_0, b2_1, decide_eq_true_eq, decide_eq_false_iff_not, Bool.not_eq_true, Bool.not_eq_false, ek] at * <;> omega)) ?_
  rw [ck, pm_rne (a := 62) (q := 61) (by decide)]
  refine wq_l 21 d258_20 rfl rfl rfl rfl ?_
  refine wq_gr (ci := 10) (j := 33) (q := 63) 24 d258_21 rfl rfl rfl rfl ?_
  refine wq_l 25 d258_24 rfl rfl rfl rfl ?_
  refine wq_gi (ci := 10) (j := 34) 28 d258_25 rfl rfl rfl rfl ?_
  first | rw [h34] | simp only [pm_r1r, h34]
  refine wq_l 29 d258_28 rfl rfl rfl rfl ?_
  refine wq_as 30 d258_29 rfl rfl rfl (vp_in_iff.mpr (by simp only [i_lt, i_le, i_eq, ne_eq, Int32.reduceToInt, b2_0, b2_1, decide_eq_true_eq, decide_eq_false_iff_not, Bool.not_eq_true, Bool.not_eq_false, ek] at * <;> omega)) ?_
  rw [ck, pm_rne (a := 63) (q := 62) (by decide), pm_rne (a := 63) (q := 61) (by decide)]
  refine wq_l 31 d258_30 rfl rfl rfl rfl ?_
  refine wq_a 32 d258_31 rfl rfl ?_
  refine wq_gi (ci := 10) (j := 34) 35 d258_32 rfl rfl rfl rfl ?_
  first | rw [h34] | simp only [pm_r1r, h34]
  refine wq_k 36 1 d258_35 (by decide) rfl ?_
  refine wq_a 37 d258_36 rfl rfl ?_
  rw [show nI k + 1 = nI (k + 1) from (nI_succ k).symm]
  refine wq_pf (ci := 10) (j := 34) 40 d258_37 rfl rfl rfl ⟨rfl, rfl⟩ rfl ?_
  refine wq_rv d258_40 ?_
  exact hQ
theorem xs_d34 {σ σ' : pm_S} (d : rp_D σ σ') : σ'.1 10 34 = σ.1 10 34 := (d.1 10 34).resolve_left (by omega)
theorem xs_k34 {σ σ' : pm_S} (k : rp_K σ σ') : σ'.1 10 34 = σ.1 10 34 := xs_d34 (rp_Df k.1)
theorem xs_bpx {T : pg_T} {k : Nat} {c : pg_C} (hk : k ≠ 46 ∧ k ≠ 45) (z : pg_live T (pg_exp T k c)) : xs_bp T (pg_exp T k c) = pg_pl T c := by
  have e := (pg_exl hk z).2.2
  rw [e]
  unfold xs_bp
  rw [if_pos (Nat.succ_pos _)]
  rfl
theorem xs_bps {T : pg_T} {c : pg_C} (z : pg_live T c) : xs_bp T (pg_stp c) = pg_pl T c := by
  rw [pg_stpl (T := T) z.1]
  unfold xs_bp
  rw [if_pos (Nat.succ_pos _)]
  rfl
/-- a body opened behind a growth -/
theorem xs_obm {t : Nat → Nat} {M n : Nat} {σ σ1 σc : pm_S} {h h1 : rp_H} {nd nn : Nat} {l : List pg_N} {w k : Nat} {c2 : pg_C} {y : Int32} (e : rp_Ew t M n σ h σ1 h1 nd l) (n1 : xs_N σ k σ1) (m : rp_M σ1 h1.1 σc (nI 11) y 0) (hy : σc.1 10 6 = 0 → y = nI (xs_bp (pt_T t M n) c2)) : xs_ob t M n σ h nd nn l w k (xs_ps σc k (nI w) (nI nn) (nI h1.1)) (rp_in h1 nd) c2 h1.1 := ⟨σ1, h1, σc, y, e, n1, m, rfl, rfl, rfl, hy⟩
theorem rp257 {d : Nat} {Q : Option Value → pm_S → Prop} {t : Nat → Nat} {M n : Nat} {σ : pm_S} {h : rp_H} {c : pg_C} {s : Nat} {nd k : Nat} (hN : rp_n t M n) (hs : s ≤ 2700) (ht : nd < h.1) (h34 : σ.1 10 34 = nI k) (hk : k < 70) (hS : rp_S t M n σ c h s) (hQ : ∀ σ2 h2 b2, xs_ob t M n σ h nd nd (pg_E (pt_T t M n) c).2 1 k σ2 h2 (pg_exp (pt_T t M n) 17 (pg_E (pt_T t M n) c).1) b2 → rp_S t M n σ2 (pg_exp (pt_T t M n) 17 (pg_E (pt_T t M n) c).1) h2 (s + 4) → Q none σ2) : pm_call pm_Y0 (d + 14) 257 [.ref 10, .int (nI nd)] σ Q := by
  refine wq_m m257 (Nat.le_of_ble_eq_true rfl) (by decide) rfl ?_
  refine wq_l 1 d257_0 rfl rfl rfl rfl ?_
  refine wq_gi (ci := 10) (j := 6) 4 d257_1 rfl rfl rfl rfl ?_
  refine wq_b 12 7 d257_4 rfl (by decide) rfl (fun c4 => ?_) (fun c4 => ?_)
  · -- pc 12
    have z1 : ¬ σ.1 10 6 = 0 := c4
    have e1 : rp_E t M n σ h σ h nd (pg_E (pt_T t M n) c).2 := rp_Ed rp_Wr z1
    have h1 : rp_S t M n σ (pg_E (pt_T t M n) c).1 h (s + 3) := rp_Sd hS (rp_dd hS z1) (pg_dE _ _ (rp_dd hS z1)) (by omega)
    refine wq_l 13 d257_12 rfl rfl rfl rfl ?_
    refine wq_gi (ci := 10) (j := 4) 16 d257_13 rfl rfl rfl rfl ?_
    refine wq_s 17 d257_16 rfl rfl (Nat.le_of_ble_eq_true rfl) rfl rfl ?_
    refine wq_l 18 d257_17 rfl rfl rfl rfl ?_
    refine wq_k 20 117 d257_18 (by decide) rfl ?_
    refine wq_v 23 [_] d257_20 rfl rfl m229 rfl rfl (Nat.le_of_ble_eq_true rfl) rfl (rp_want (k := 17) hN (by decide) (by decide) h1 (fun σ2 h2 k2 => ?_))
    refine wq_l 24 d257_23 rfl rfl rfl rfl ?_
    refine wq_k 25 1 d257_24 (by decide) rfl ?_
    refine wq_l 26 d257_25 rfl rfl rfl rfl ?_
    refine wq_l 27 d257_26 rfl rfl rfl rfl ?_
    refine wq_l 28 d257_27 rfl rfl rfl rfl ?_
    refine wq_k 30 11 d257_28 (by decide) rfl ?_
    refine wq_l 31 d257_30 rfl rfl rfl rfl ?_
    refine wq_k 32 0 d257_31 (by decide) rfl ?_
    refine wq_v 35 [_, _, _, _] d257_32 rfl rfl m226 rfl rfl (Nat.le_of_ble_eq_true rfl) rfl (rp_mkin (to := nd) hN (by omega) (Nat.lt_of_lt_of_le ht e1.2.1) h2 (fun σ3 h3 m3 => ?_))
    refine wq_v 38 [_, _, _] d257_35 rfl rfl m258 rfl rfl (Nat.le_of_ble_eq_true rfl) rfl (sp258 (k := k) (by rw [xs_d34 m3.1, xs_k34 k2, xs_d34 e1.1]; exact h34) hk ?_)
    refine wq_rv d257_38 ?_
    have e2 := rp_Et ht e1 (rp_Ek k2)
    rw [List.append_nil] at e2
    refine hQ _ _ _ (xs_obm (w := 1) (rp_Eww e2) (xs_Nd e2.1) m3 (fun w => ?_)) (rp_Se (xs_Sq xs_qp h3) rfl (by omega))
    have w2 := m3.2.1 w
    rw [xs_bpx (by decide) (rp_lv h2 w2)]
    exact rp_pl h1 (k2.2 w2)
  · -- pc 7
    skip
    refine wq_l 8 d257_7 rfl rfl rfl rfl ?_
    refine wq_l 9 d257_8 rfl rfl rfl rfl ?_
    refine wq_v 12 [_] d257_9 rfl rfl m244 rfl rfl (Nat.le_of_ble_eq_true rfl) rfl (rp244 (s := s) (to := nd) hN (by omega) ht hS (fun σ1 h1' h1 g1 => ?_))
    have e1 := g1
    refine wq_l 13 d257_12 rfl rfl rfl rfl ?_
    refine wq_gi (ci := 10) (j := 4) 16 d257_13 rfl rfl rfl rfl ?_
    refine wq_s 17 d257_16 rfl rfl (Nat.le_of_ble_eq_true rfl) rfl rfl ?_
    refine wq_l 18 d257_17 rfl rfl rfl rfl ?_
    refine wq_k 20 117 d257_18 (by decide) rfl ?_
    refine wq_v 23 [_] d257_20 rfl rfl m229 rfl rfl (Nat.le_of_ble_eq_true rfl) rfl (rp_want (k := 17) hN (by decide) (by decide) h1 (fun σ2 h2 k2 => ?_))
    refine wq_l 24 d257_23 rfl rfl rfl rfl ?_
    refine wq_k 25 1 d257_24 (by decide) rfl ?_
    refine wq_l 26 d257_25 rfl rfl rfl rfl ?_
    refine wq_l 27 d257_26 rfl rfl rfl rfl ?_
    refine wq_l 28 d257_27 rfl rfl rfl rfl ?_
    refine wq_k 30 11 d257_28 (by decide) rfl ?_
    refine wq_l 31 d257_30 rfl rfl rfl rfl ?_
    refine wq_k 32 0 d257_31 (by decide) rfl ?_
    refine wq_v 35 [_, _, _, _] d257_32 rfl rfl m226 rfl rfl (Nat.le_of_ble_eq_true rfl) rfl (rp_mkin (to := nd) hN (by omega) (Nat.lt_of_lt_of_le ht e1.2.1) h2 (fun σ3 h3 m3 => ?_))
    refine wq_v 38 [_, _, _] d257_35 rfl rfl m258 rfl rfl (Nat.le_of_ble_eq_true rfl) rfl (sp258 (k := k) (by rw [xs_d34 m3.1, xs_k34 k2, xs_d34 e1.1]; exact h34) hk ?_)
    refine wq_rv d257_38 ?_
    have e2 := rp_Et ht e1 (rp_Ek k2)
    rw [List.append_nil] at e2
    refine hQ _ _ _ (xs_obm (w := 1) (rp_Eww e2) (xs_Nd e2.1) m3 (fun w => ?_)) (rp_Se (xs_Sq xs_qp h3) rfl (by omega))
    have w2 := m3.2.1 w
    rw [xs_bpx (by decide) (rp_lv h2 w2)]
    exact rp_pl h1 (k2.2 w2)
/-- three steps that leave the nodes alone -/
theorem xs_e3 {t : Nat → Nat} {M n : Nat} {σ σ1 σ2 σ3 : pm_S} {h : rp_H} {to : Nat} (a : rp_Ew t M n σ h σ1 h to []) (b : rp_Ew t M n σ1 h σ2 h to []) (c : rp_Ew t M n σ2 h σ3 h to []) (z : σ3.1 10 6 = 0) : h.1 = h.1 + ([] : List pg_N).length ∧ ∃ L : List hp_N, L.map (·.1) = [] ∧ hp_E h.1 h.2 (rp_h t M n σ) h.1 h.2 (rp_h t M n σ3) to L := by
  have z2 := c.1.2.2.1 z
  have z1 := b.1.2.2.1 z2
  obtain ⟨_, L1, e1, a1, a2, a3, a4, a5⟩ := a.2 z1
  obtain ⟨_, L2, e2, b1, b2, b3, b4, b5⟩ := b.2 z2
  obtain ⟨_, L3, e3, c1, c2, c3, c4, c5⟩ := c.2 z
  exact ⟨rfl, [], rfl, Nat.le_refl _, fun _ _ _ => rfl, (List.append_nil _).symm, fun x hx q hq => c4 x hx q (b4 x hx q (a4 x hx q hq)), trivial, fun x hx => absurd hx List.not_mem_nil, fun j x h => (by simp at h)⟩
theorem rp264 {d : Nat} {Q : Option Value → pm_S → Prop} {t : Nat → Nat} {M n : Nat} {σ : pm_S} {h : rp_H} {c : pg_C} {s : Nat} {k e w : Nat} (hN : rp_n t M n) (h34 : σ.1 10 34 = nI (k + 1)) (hk : k + 1 ≤ c.2.2) (hf : pg_is (pt_T t M n) e c = true) (he : e ≠ 44 ∧ e ≠ 45 ∧ e ≠ 46) (hS : rp_S t M n σ c h s) (hQ : ∀ σ2, rp_S t M n σ2 (pg_exp (pt_T t M n) 57 (pg_dec (pg_exp (pt_T t M n) e c))) h s → (∀ to, rp_Ew t M n σ h σ2 h to []) → xs_N σ k σ2 → σ2.1 10 34 = nI k → Q none σ2) : pm_call pm_Y0 (d + 8) 264 [.ref 10] σ Q := by
  have hl := pg_isl hf he
  have hx := pg_xs hl.1 hf
  have qs := xe_ls hl.1
  rw [hx] at hQ
  refine wq_m m264 (Nat.le_of_ble_eq_true rfl) (by decide) rfl ?_
  refine wq_l 1 d264_0 rfl rfl rfl rfl ?_
  refine wq_v 4 [] d264_1 rfl rfl m203 rfl rfl (Nat.le_of_ble_eq_true rfl) rfl (rp_go hN hl hS (fun σ1 h1 k1 => ?_))
  refine wq_l 5 d264_4 rfl rfl rfl rfl ?_
  refine wq_a 6 d264_5 rfl rfl ?_
  refine wq_gi (ci := 10) (j := 34) 9 d264_6 rfl rfl rfl rfl ?_
  rw [show σ1.1 10 34 = nI (k + 1) from (xs_k34 k1).trans h34]
  refine wq_k 10 1 d264_9 (by decide) rfl ?_
  refine wq_a 11 d264_10 rfl rfl ?_
  rw [nI_pred]
  refine wq_pf (ci := 10) (j := 34) 14 d264_11 rfl rfl rfl ⟨rfl, rfl⟩ rfl ?_
  have h2 := xs_Sq (xs_qi (x := nI k)) h1
  refine wq_l 15 d264_14 rfl rfl rfl rfl ?_
  refine wq_a 16 d264_15 rfl rfl ?_
  refine wq_gi (ci := 10) (j := 8) 19 d264_16 rfl rfl rfl rfl ?_
  refine wq_k 20 1 d264_19 (by decide) rfl ?_
  refine wq_a 21 d264_20 rfl rfl ?_
  refine wq_pf (ci := 10) (j := 8) 24 d264_21 rfl rfl rfl ⟨rfl, rfl⟩ rfl ?_
  have h3 := rp_dec h2 (fun _ => by omega)
  refine wq_l 25 d264_24 rfl rfl rfl rfl ?_
  refine wq_k 28 259 d264_25 (by decide) rfl ?_
  refine wq_v 31 [_] d264_28 rfl rfl m229 rfl rfl (Nat.le_of_ble_eq_true rfl) rfl (rp_want (k := 57) hN (by decide) (by decide) h3 (fun σ4 h4 k4 => ?_))
  refine wq_rv d264_31 ?_
  have k5 : rp_K (pm_pi σ1 10 34 (nI k)) σ4 := rp_Kt rp_pi8 k4
  refine hQ _ h4 (fun to => ?_) ?_ ((xs_k34 k5).trans rfl)
  · exact ⟨rp_Wwt (rp_Eww (rp_Ek (t := t) (M := M) (n := n) (h := h) (to := to) k1)).1 (rp_Wwt (xs_Eq (t := t) (M := M) (n := n) (h := h) (to := to) xs_qi).1 (rp_Eww (rp_Ek (t := t) (M := M) (n := n) (h := h) (to := to) k5)).1), fun z => xs_e3 (rp_Eww (rp_Ek k1)) (xs_Eq xs_qi) (rp_Eww (rp_Ek k5)) z⟩
  · exact xs_Nt (Nat.le_refl _) (xs_Nd (rp_Df k1.1)) (xs_Nt (σ1 := pm_pi σ1 10 34 (nI k)) (Nat.le_refl _) (fun j hj => ⟨rfl, rfl, rfl⟩) (xs_Nd (rp_Df k5.1)))
theorem rp262 {d : Nat} {Q : Option Value → pm_S → Prop} {t : Nat → Nat} {M n : Nat} {σ : pm_S} {h : rp_H} {c : pg_C} {s : Nat} (hN : rp_n t M n) (hS : rp_S t M n σ c h s) (hQ : Q (some (.int (b2 (pg_any (pt_T t M n) [42, 61, 35, 36] c)))) σ) : pm_call pm_Y0 (d + 3) 262 [.ref 10] σ Q := by
  simp only [pg_any_c, pg_any_n, Bool.or_false] at hQ
  refine wq_m m262 (Nat.le_of_ble_eq_true rfl) (by decide) rfl ?_
  refine wq_l 1 d262_0 rfl rfl rfl rfl ?_
  refine wq_k 3 45 d262_1 (by decide) rfl ?_
  refine wq_v 6 [_] d262_3 rfl rfl m238 rfl rfl (Nat.le_of_ble_eq_true rfl) rfl (rp_sg (k := 61) hN (by decide) (by decide) hS ?_)
  refine wq_b 37 9 d262_6 rfl (by decide) rfl (fun c6 => ?_) (fun c6 => ?_)
  · -- pc 37
    have f6 := b2n c6; rw [f6] at hQ
    refine wq_k 38 1 d262_37 (by decide) rfl ?_
    refine wq_g 42 d262_38 (by decide) ?_
    refine wq_ri d262_42 (rfl) ?_
    first | exact hQ | (simp only [Bool.true_or, Bool.or_true, Bool.false_or] at hQ; exact hQ)
  · -- pc 9
    have f6 := b2y c6; rw [f6] at hQ
    refine wq_l 10 d262_9 rfl rfl rfl rfl ?_
    refine wq_k 11 2 d262_10 (by decide) rfl ?_
    refine wq_v 14 [_] d262_11 rfl rfl m224 rfl rfl (Nat.le_of_ble_eq_true rfl) rfl (rp_is (k := 42) hN (by decide) (by decide) hS ?_)
    refine wq_b 37 17 d262_14 rfl (by decide) rfl (fun c14 => ?_) (fun c14 => ?_)
    · -- pc 37
      have f14 := b2n c14; rw [f14] at hQ
      refine wq_k 38 1 d262_37 (by decide) rfl ?_
      refine wq_g 42 d262_38 (by decide) ?_
      refine wq_ri d262_42 (rfl) ?_
      first | exact hQ | (simp only [Bool.true_or, Bool.or_true, Bool.false_or] at hQ; exact hQ)
    · -- pc 17
      have f14 := b2y c14; rw [f14] at hQ
      refine wq_l 18 d262_17 rfl rfl rfl rfl ?_
      refine wq_k 21 135 d262_18 (by decide) rfl ?_
      refine wq_v 24 [_] d262_21 rfl rfl m224 rfl rfl (Nat.le_of_ble_eq_true rfl) rfl (rp_is (k := 35) hN (by decide) (by decide) hS ?_)
      refine wq_b 37 27 d262_24 rfl (by decide) rfl (fun c24 => ?_) (fun c24 => ?_)
      · -- pc 37
        have f24 := b2n c24; rw [f24] at hQ
        refine wq_k 38 1 d262_37 (by decide) rfl ?_
        refine wq_g 42 d262_38 (by decide) ?_
        refine wq_ri d262_42 (rfl) ?_
        first | exact hQ | (simp only [Bool.true_or, Bool.or_true, Bool.false_or] at hQ; exact hQ)
      · -- pc 27
        have f24 := b2y c24; rw [f24] at hQ
        refine wq_l 28 d262_27 rfl rfl rfl rfl ?_
        refine wq_k 31 136 d262_28 (by decide) rfl ?_
        refine wq_v 34 [_] d262_31 rfl rfl m224 rfl rfl (Nat.le_of_ble_eq_true rfl) rfl (rp_is (k := 36) hN (by decide) (by decide) hS ?_)
        refine wq_b 41 37 d262_34 rfl (by decide) rfl (fun c34 => ?_) (fun c34 => ?_)
        · -- pc 41
          have f34 := b2z c34; rw [f34] at hQ
          refine wq_k 42 0 d262_41 (by decide) rfl ?_
          refine wq_ri d262_42 (rfl) ?_
          first | exact hQ | (simp only [Bool.true_or, Bool.or_true, Bool.false_or] at hQ; exact hQ)
        · -- pc 37
          have f34 := b2n c34; rw [f34] at hQ
          refine wq_k 38 1 d262_37 (by decide) rfl ?_
          refine wq_g 42 d262_38 (by decide) ?_
          refine wq_ri d262_42 (rfl) ?_
          first | exact hQ | (simp only [Bool.true_or, Bool.or_true, Bool.false_or] at hQ; exact hQ)
