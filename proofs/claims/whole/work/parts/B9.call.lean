theorem d72_0 : decode prog_10_method_21_code 0 = .ok (.iconst 0, 1) := by decide +kernel
theorem d72_1 : decode prog_10_method_21_code 1 = .ok (.istore_n 2, 1) := by decide +kernel
theorem d72_2 : decode prog_10_method_21_code 2 = .ok (.aload_n 0, 1) := by decide +kernel
theorem d72_3 : decode prog_10_method_21_code 3 = .ok (.iload_n 1, 1) := by decide +kernel
theorem d72_4 : decode prog_10_method_21_code 4 = .ok (.invokevirtual 56, 3) := by decide +kernel
theorem d72_7 : decode prog_10_method_21_code 7 = .ok (.istore_n 3, 1) := by decide +kernel
theorem d72_8 : decode prog_10_method_21_code 8 = .ok (.iload_n 1, 1) := by decide +kernel
theorem d72_9 : decode prog_10_method_21_code 9 = .ok (.iconst 1, 1) := by decide +kernel
theorem d72_10 : decode prog_10_method_21_code 10 = .ok (.iadd, 1) := by decide +kernel
theorem d72_11 : decode prog_10_method_21_code 11 = .ok (.istore 4, 2) := by decide +kernel
theorem d72_13 : decode prog_10_method_21_code 13 = .ok (.iload 4, 2) := by decide +kernel
theorem d72_15 : decode prog_10_method_21_code 15 = .ok (.iload_n 3, 1) := by decide +kernel
theorem d72_16 : decode prog_10_method_21_code 16 = .ok (.if_icmp .ge 17, 3) := by decide +kernel
theorem d72_19 : decode prog_10_method_21_code 19 = .ok (.iinc 2 1, 3) := by decide +kernel
theorem d72_22 : decode prog_10_method_21_code 22 = .ok (.aload_n 0, 1) := by decide +kernel
theorem d72_23 : decode prog_10_method_21_code 23 = .ok (.iload 4, 2) := by decide +kernel
theorem d72_25 : decode prog_10_method_21_code 25 = .ok (.invokevirtual 56, 3) := by decide +kernel
theorem d72_28 : decode prog_10_method_21_code 28 = .ok (.istore 4, 2) := by decide +kernel
theorem d72_30 : decode prog_10_method_21_code 30 = .ok (.goto (-17), 3) := by decide +kernel
theorem d72_33 : decode prog_10_method_21_code 33 = .ok (.iload_n 2, 1) := by decide +kernel
theorem d72_34 : decode prog_10_method_21_code 34 = .ok (.ireturn, 1) := by decide +kernel
theorem m72 : pm_m 72 = some (⟨"TypeRules$Tree", "childCount", "(I)I"⟩, prog_10_method_21_code, 5, (some FieldType.int), 3, 1, 4) := rfl
theorem d73_0 : decode prog_10_method_22_code 0 = .ok (.aload_n 0, 1) := by decide +kernel
theorem d73_1 : decode prog_10_method_22_code 1 = .ok (.iload_n 1, 1) := by decide +kernel
theorem d73_2 : decode prog_10_method_22_code 2 = .ok (.invokevirtual 60, 3) := by decide +kernel
theorem d73_5 : decode prog_10_method_22_code 5 = .ok (.istore_n 3, 1) := by decide +kernel
theorem d73_6 : decode prog_10_method_22_code 6 = .ok (.aload_n 0, 1) := by decide +kernel
theorem d73_7 : decode prog_10_method_22_code 7 = .ok (.getfield 36, 3) := by decide +kernel
theorem d73_10 : decode prog_10_method_22_code 10 = .ok (.istore 4, 2) := by decide +kernel
theorem d73_12 : decode prog_10_method_22_code 12 = .ok (.iload 4, 2) := by decide +kernel
theorem d73_14 : decode prog_10_method_22_code 14 = .ok (.ifCond .le 46, 3) := by decide +kernel
theorem d73_17 : decode prog_10_method_22_code 17 = .ok (.iload_n 3, 1) := by decide +kernel
theorem d73_18 : decode prog_10_method_22_code 18 = .ok (.iconst (-1), 1) := by decide +kernel
theorem d73_19 : decode prog_10_method_22_code 19 = .ok (.if_icmp .eq 41, 3) := by decide +kernel
theorem d73_22 : decode prog_10_method_22_code 22 = .ok (.aload_n 0, 1) := by decide +kernel
theorem d73_23 : decode prog_10_method_22_code 23 = .ok (.iload_n 3, 1) := by decide +kernel
theorem d73_24 : decode prog_10_method_22_code 24 = .ok (.invokevirtual 63, 3) := by decide +kernel
theorem d73_27 : decode prog_10_method_22_code 27 = .ok (.bipush 19, 2) := by decide +kernel
theorem d73_29 : decode prog_10_method_22_code 29 = .ok (.if_icmp .ne 19, 3) := by decide +kernel
theorem d73_32 : decode prog_10_method_22_code 32 = .ok (.iload_n 2, 1) := by decide +kernel
theorem d73_33 : decode prog_10_method_22_code 33 = .ok (.iconst (-1), 1) := by decide +kernel
theorem d73_34 : decode prog_10_method_22_code 34 = .ok (.if_icmp .eq 12, 3) := by decide +kernel
theorem d73_37 : decode prog_10_method_22_code 37 = .ok (.aload_n 0, 1) := by decide +kernel
theorem d73_38 : decode prog_10_method_22_code 38 = .ok (.iload_n 3, 1) := by decide +kernel
theorem d73_39 : decode prog_10_method_22_code 39 = .ok (.invokevirtual 68, 3) := by decide +kernel
theorem d73_42 : decode prog_10_method_22_code 42 = .ok (.iload_n 2, 1) := by decide +kernel
theorem d73_43 : decode prog_10_method_22_code 43 = .ok (.if_icmp .ne 5, 3) := by decide +kernel
theorem d73_46 : decode prog_10_method_22_code 46 = .ok (.iconst 1, 1) := by decide +kernel
theorem d73_47 : decode prog_10_method_22_code 47 = .ok (.ireturn, 1) := by decide +kernel
theorem d73_48 : decode prog_10_method_22_code 48 = .ok (.aload_n 0, 1) := by decide +kernel
theorem d73_49 : decode prog_10_method_22_code 49 = .ok (.iload_n 3, 1) := by decide +kernel
theorem d73_50 : decode prog_10_method_22_code 50 = .ok (.invokevirtual 60, 3) := by decide +kernel
theorem d73_53 : decode prog_10_method_22_code 53 = .ok (.istore_n 3, 1) := by decide +kernel
theorem d73_54 : decode prog_10_method_22_code 54 = .ok (.iinc 4 (-1), 3) := by decide +kernel
theorem d73_57 : decode prog_10_method_22_code 57 = .ok (.goto (-45), 3) := by decide +kernel
theorem d73_60 : decode prog_10_method_22_code 60 = .ok (.iconst 0, 1) := by decide +kernel
theorem d73_61 : decode prog_10_method_22_code 61 = .ok (.ireturn, 1) := by decide +kernel
theorem m73 : pm_m 73 = some (⟨"TypeRules$Tree", "isInLoop", "(II)Z"⟩, prog_10_method_22_code, 5, (some FieldType.boolean), 3, 2, 4) := rfl
theorem d22_0 : decode prog_4_method_10_code 0 = .ok (.iload_n 0, 1) := by decide +kernel
theorem d22_1 : decode prog_4_method_10_code 1 = .ok (.bipush 50, 2) := by decide +kernel
theorem d22_3 : decode prog_4_method_10_code 3 = .ok (.if_icmp .lt 16, 3) := by decide +kernel
theorem d22_6 : decode prog_4_method_10_code 6 = .ok (.iload_n 0, 1) := by decide +kernel
theorem d22_7 : decode prog_4_method_10_code 7 = .ok (.bipush 60, 2) := by decide +kernel
theorem d22_9 : decode prog_4_method_10_code 9 = .ok (.if_icmp .ge 10, 3) := by decide +kernel
theorem d22_12 : decode prog_4_method_10_code 12 = .ok (.iload_n 0, 1) := by decide +kernel
theorem d22_13 : decode prog_4_method_10_code 13 = .ok (.bipush 50, 2) := by decide +kernel
theorem d22_15 : decode prog_4_method_10_code 15 = .ok (.isub, 1) := by decide +kernel
theorem d22_16 : decode prog_4_method_10_code 16 = .ok (.goto 4, 3) := by decide +kernel
theorem d22_19 : decode prog_4_method_10_code 19 = .ok (.iconst (-1), 1) := by decide +kernel
theorem d22_20 : decode prog_4_method_10_code 20 = .ok (.ireturn, 1) := by decide +kernel
theorem m22 : pm_m 22 = some (⟨"TypeRules$Names", "functionOf", "(I)I"⟩, prog_4_method_10_code, 1, (some FieldType.int), 1, 1, 0) := rfl
theorem d171_0 : decode prog_3_method_10_code 0 = .ok (.iload_n 0, 1) := by decide +kernel
theorem d171_1 : decode prog_3_method_10_code 1 = .ok (.ifCond .lt 19, 3) := by decide +kernel
theorem d171_4 : decode prog_3_method_10_code 4 = .ok (.iload_n 0, 1) := by decide +kernel
theorem d171_5 : decode prog_3_method_10_code 5 = .ok (.getstatic 117, 3) := by decide +kernel
theorem d171_8 : decode prog_3_method_10_code 8 = .ok (.arraylength, 1) := by decide +kernel
theorem d171_9 : decode prog_3_method_10_code 9 = .ok (.if_icmp .ge 11, 3) := by decide +kernel
theorem d171_12 : decode prog_3_method_10_code 12 = .ok (.getstatic 117, 3) := by decide +kernel
theorem d171_15 : decode prog_3_method_10_code 15 = .ok (.iload_n 0, 1) := by decide +kernel
theorem d171_16 : decode prog_3_method_10_code 16 = .ok (.iaload, 1) := by decide +kernel
theorem d171_17 : decode prog_3_method_10_code 17 = .ok (.goto 4, 3) := by decide +kernel
theorem d171_20 : decode prog_3_method_10_code 20 = .ok (.iconst (-1), 1) := by decide +kernel
theorem d171_21 : decode prog_3_method_10_code 21 = .ok (.ireturn, 1) := by decide +kernel
theorem m171 : pm_m 171 = some (⟨"TypeRules$Expressions", "operandCount", "(I)I"⟩, prog_3_method_10_code, 1, (some FieldType.int), 8, 1, 0) := rfl
theorem d172_0 : decode prog_3_method_11_code 0 = .ok (.iload_n 2, 1) := by decide +kernel
theorem d172_1 : decode prog_3_method_11_code 1 = .ok (.iconst 1, 1) := by decide +kernel
theorem d172_2 : decode prog_3_method_11_code 2 = .ok (.iadd, 1) := by decide +kernel
theorem d172_3 : decode prog_3_method_11_code 3 = .ok (.istore_n 3, 1) := by decide +kernel
theorem d172_4 : decode prog_3_method_11_code 4 = .ok (.aload_n 0, 1) := by decide +kernel
theorem d172_5 : decode prog_3_method_11_code 5 = .ok (.getfield 15, 3) := by decide +kernel
theorem d172_8 : decode prog_3_method_11_code 8 = .ok (.iload_n 1, 1) := by decide +kernel
theorem d172_9 : decode prog_3_method_11_code 9 = .ok (.invokevirtual 99, 3) := by decide +kernel
theorem d172_12 : decode prog_3_method_11_code 12 = .ok (.istore 4, 2) := by decide +kernel
theorem d172_14 : decode prog_3_method_11_code 14 = .ok (.iconst 0, 1) := by decide +kernel
theorem d172_15 : decode prog_3_method_11_code 15 = .ok (.istore 5, 2) := by decide +kernel
theorem d172_17 : decode prog_3_method_11_code 17 = .ok (.iload 5, 2) := by decide +kernel
theorem d172_19 : decode prog_3_method_11_code 19 = .ok (.iload 4, 2) := by decide +kernel
theorem d172_21 : decode prog_3_method_11_code 21 = .ok (.if_icmp .ge 44, 3) := by decide +kernel
theorem d172_24 : decode prog_3_method_11_code 24 = .ok (.aload_n 0, 1) := by decide +kernel
theorem d172_25 : decode prog_3_method_11_code 25 = .ok (.getfield 9, 3) := by decide +kernel
theorem d172_28 : decode prog_3_method_11_code 28 = .ok (.iload_n 3, 1) := by decide +kernel
theorem d172_29 : decode prog_3_method_11_code 29 = .ok (.invokevirtual 80, 3) := by decide +kernel
theorem d172_32 : decode prog_3_method_11_code 32 = .ok (.aload_n 0, 1) := by decide +kernel
theorem d172_33 : decode prog_3_method_11_code 33 = .ok (.getfield 15, 3) := by decide +kernel
theorem d172_36 : decode prog_3_method_11_code 36 = .ok (.iload_n 1, 1) := by decide +kernel
theorem d172_37 : decode prog_3_method_11_code 37 = .ok (.iload 5, 2) := by decide +kernel
theorem d172_39 : decode prog_3_method_11_code 39 = .ok (.invokevirtual 121, 3) := by decide +kernel
theorem d172_42 : decode prog_3_method_11_code 42 = .ok (.invokestatic 124, 3) := by decide +kernel
theorem d172_45 : decode prog_3_method_11_code 45 = .ok (.ifCond .ne 5, 3) := by decide +kernel
theorem d172_48 : decode prog_3_method_11_code 48 = .ok (.iconst (-1), 1) := by decide +kernel
theorem d172_49 : decode prog_3_method_11_code 49 = .ok (.ireturn, 1) := by decide +kernel
theorem d172_50 : decode prog_3_method_11_code 50 = .ok (.aload_n 0, 1) := by decide +kernel
theorem d172_51 : decode prog_3_method_11_code 51 = .ok (.getfield 9, 3) := by decide +kernel
theorem d172_54 : decode prog_3_method_11_code 54 = .ok (.iload_n 3, 1) := by decide +kernel
theorem d172_55 : decode prog_3_method_11_code 55 = .ok (.invokevirtual 128, 3) := by decide +kernel
theorem d172_58 : decode prog_3_method_11_code 58 = .ok (.istore_n 3, 1) := by decide +kernel
theorem d172_59 : decode prog_3_method_11_code 59 = .ok (.iinc 5 1, 3) := by decide +kernel
theorem d172_62 : decode prog_3_method_11_code 62 = .ok (.goto (-45), 3) := by decide +kernel
theorem d172_65 : decode prog_3_method_11_code 65 = .ok (.aload_n 0, 1) := by decide +kernel
theorem d172_66 : decode prog_3_method_11_code 66 = .ok (.getfield 15, 3) := by decide +kernel
theorem d172_69 : decode prog_3_method_11_code 69 = .ok (.iload_n 1, 1) := by decide +kernel
theorem d172_70 : decode prog_3_method_11_code 70 = .ok (.invokevirtual 131, 3) := by decide +kernel
theorem d172_73 : decode prog_3_method_11_code 73 = .ok (.ireturn, 1) := by decide +kernel
theorem m172 : pm_m 172 = some (⟨"TypeRules$Expressions", "ownResult", "(II)I"⟩, prog_3_method_11_code, 6, (some FieldType.int), 8, 2, 9) := rfl
theorem d174_0 : decode prog_3_method_12_code 0 = .ok (.aload_n 0, 1) := by decide +kernel
theorem d174_1 : decode prog_3_method_12_code 1 = .ok (.getfield 9, 3) := by decide +kernel
theorem d174_4 : decode prog_3_method_12_code 4 = .ok (.iload_n 2, 1) := by decide +kernel
theorem d174_5 : decode prog_3_method_12_code 5 = .ok (.invokevirtual 128, 3) := by decide +kernel
theorem d174_8 : decode prog_3_method_12_code 8 = .ok (.istore_n 3, 1) := by decide +kernel
theorem d174_9 : decode prog_3_method_12_code 9 = .ok (.aload_n 0, 1) := by decide +kernel
theorem d174_10 : decode prog_3_method_12_code 10 = .ok (.getfield 9, 3) := by decide +kernel
theorem d174_13 : decode prog_3_method_12_code 13 = .ok (.iload_n 2, 1) := by decide +kernel
theorem d174_14 : decode prog_3_method_12_code 14 = .ok (.iconst 1, 1) := by decide +kernel
theorem d174_15 : decode prog_3_method_12_code 15 = .ok (.iadd, 1) := by decide +kernel
theorem d174_16 : decode prog_3_method_12_code 16 = .ok (.invokevirtual 128, 3) := by decide +kernel
theorem d174_19 : decode prog_3_method_12_code 19 = .ok (.istore 4, 2) := by decide +kernel
theorem d174_21 : decode prog_3_method_12_code 21 = .ok (.iload 4, 2) := by decide +kernel
theorem d174_23 : decode prog_3_method_12_code 23 = .ok (.iload_n 3, 1) := by decide +kernel
theorem d174_24 : decode prog_3_method_12_code 24 = .ok (.if_icmp .ge 15, 3) := by decide +kernel
theorem d174_27 : decode prog_3_method_12_code 27 = .ok (.aload_n 0, 1) := by decide +kernel
theorem d174_28 : decode prog_3_method_12_code 28 = .ok (.getfield 9, 3) := by decide +kernel
theorem d174_31 : decode prog_3_method_12_code 31 = .ok (.iload 4, 2) := by decide +kernel
theorem d174_33 : decode prog_3_method_12_code 33 = .ok (.invokevirtual 128, 3) := by decide +kernel
theorem d174_36 : decode prog_3_method_12_code 36 = .ok (.goto 4, 3) := by decide +kernel
theorem d174_39 : decode prog_3_method_12_code 39 = .ok (.iload_n 3, 1) := by decide +kernel
theorem d174_40 : decode prog_3_method_12_code 40 = .ok (.istore 5, 2) := by decide +kernel
theorem d174_42 : decode prog_3_method_12_code 42 = .ok (.aload_n 0, 1) := by decide +kernel
theorem d174_43 : decode prog_3_method_12_code 43 = .ok (.getfield 9, 3) := by decide +kernel
theorem d174_46 : decode prog_3_method_12_code 46 = .ok (.iload_n 2, 1) := by decide +kernel
theorem d174_47 : decode prog_3_method_12_code 47 = .ok (.iconst 1, 1) := by decide +kernel
theorem d174_48 : decode prog_3_method_12_code 48 = .ok (.iadd, 1) := by decide +kernel
theorem d174_49 : decode prog_3_method_12_code 49 = .ok (.invokevirtual 80, 3) := by decide +kernel
theorem d174_52 : decode prog_3_method_12_code 52 = .ok (.istore 6, 2) := by decide +kernel
theorem d174_54 : decode prog_3_method_12_code 54 = .ok (.iload 4, 2) := by decide +kernel
theorem d174_56 : decode prog_3_method_12_code 56 = .ok (.iload_n 3, 1) := by decide +kernel
theorem d174_57 : decode prog_3_method_12_code 57 = .ok (.if_icmp .ge 15, 3) := by decide +kernel
theorem d174_60 : decode prog_3_method_12_code 60 = .ok (.aload_n 0, 1) := by decide +kernel
theorem d174_61 : decode prog_3_method_12_code 61 = .ok (.getfield 9, 3) := by decide +kernel
theorem d174_64 : decode prog_3_method_12_code 64 = .ok (.iload 4, 2) := by decide +kernel
theorem d174_66 : decode prog_3_method_12_code 66 = .ok (.invokevirtual 80, 3) := by decide +kernel
theorem d174_69 : decode prog_3_method_12_code 69 = .ok (.goto 4, 3) := by decide +kernel
theorem d174_72 : decode prog_3_method_12_code 72 = .ok (.iconst (-1), 1) := by decide +kernel
theorem d174_73 : decode prog_3_method_12_code 73 = .ok (.istore 7, 2) := by decide +kernel
theorem d174_75 : decode prog_3_method_12_code 75 = .ok (.iload 5, 2) := by decide +kernel
theorem d174_77 : decode prog_3_method_12_code 77 = .ok (.iload_n 3, 1) := by decide +kernel
theorem d174_78 : decode prog_3_method_12_code 78 = .ok (.if_icmp .ge 15, 3) := by decide +kernel
theorem d174_81 : decode prog_3_method_12_code 81 = .ok (.aload_n 0, 1) := by decide +kernel
theorem d174_82 : decode prog_3_method_12_code 82 = .ok (.getfield 9, 3) := by decide +kernel
theorem d174_85 : decode prog_3_method_12_code 85 = .ok (.iload 5, 2) := by decide +kernel
theorem d174_87 : decode prog_3_method_12_code 87 = .ok (.invokevirtual 80, 3) := by decide +kernel
theorem d174_90 : decode prog_3_method_12_code 90 = .ok (.goto 4, 3) := by decide +kernel
theorem d174_93 : decode prog_3_method_12_code 93 = .ok (.iconst (-1), 1) := by decide +kernel
theorem d174_94 : decode prog_3_method_12_code 94 = .ok (.istore 8, 2) := by decide +kernel
theorem d174_96 : decode prog_3_method_12_code 96 = .ok (.iload_n 1, 1) := by decide +kernel
theorem d174_97 : decode prog_3_method_12_code 97 = .ok (.tableswitch 124 0 8 #[51, 59, 59, 67, 80, 97, 97, 120, 122], 51) := by decide +kernel
theorem d174_148 : decode prog_3_method_12_code 148 = .ok (.iload 6, 2) := by decide +kernel
theorem d174_150 : decode prog_3_method_12_code 150 = .ok (.iload 6, 2) := by decide +kernel
theorem d174_152 : decode prog_3_method_12_code 152 = .ok (.invokestatic 134, 3) := by decide +kernel
theorem d174_155 : decode prog_3_method_12_code 155 = .ok (.ireturn, 1) := by decide +kernel
theorem d174_156 : decode prog_3_method_12_code 156 = .ok (.iload 6, 2) := by decide +kernel
theorem d174_158 : decode prog_3_method_12_code 158 = .ok (.iload 7, 2) := by decide +kernel
theorem d174_160 : decode prog_3_method_12_code 160 = .ok (.invokestatic 134, 3) := by decide +kernel
theorem d174_163 : decode prog_3_method_12_code 163 = .ok (.ireturn, 1) := by decide +kernel
theorem d174_164 : decode prog_3_method_12_code 164 = .ok (.iload 6, 2) := by decide +kernel
theorem d174_166 : decode prog_3_method_12_code 166 = .ok (.iload 7, 2) := by decide +kernel
theorem d174_168 : decode prog_3_method_12_code 168 = .ok (.invokestatic 134, 3) := by decide +kernel
theorem d174_171 : decode prog_3_method_12_code 171 = .ok (.iload 8, 2) := by decide +kernel
theorem d174_173 : decode prog_3_method_12_code 173 = .ok (.invokestatic 134, 3) := by decide +kernel
theorem d174_176 : decode prog_3_method_12_code 176 = .ok (.ireturn, 1) := by decide +kernel
theorem d174_177 : decode prog_3_method_12_code 177 = .ok (.iload 6, 2) := by decide +kernel
theorem d174_179 : decode prog_3_method_12_code 179 = .ok (.ifCond .ne 13, 3) := by decide +kernel
theorem d174_182 : decode prog_3_method_12_code 182 = .ok (.iload 7, 2) := by decide +kernel
theorem d174_184 : decode prog_3_method_12_code 184 = .ok (.iload 8, 2) := by decide +kernel
theorem d174_186 : decode prog_3_method_12_code 186 = .ok (.invokestatic 137, 3) := by decide +kernel
theorem d174_189 : decode prog_3_method_12_code 189 = .ok (.goto 4, 3) := by decide +kernel
theorem d174_192 : decode prog_3_method_12_code 192 = .ok (.iconst (-1), 1) := by decide +kernel
theorem d174_193 : decode prog_3_method_12_code 193 = .ok (.ireturn, 1) := by decide +kernel
theorem d174_194 : decode prog_3_method_12_code 194 = .ok (.iload 6, 2) := by decide +kernel
theorem d174_196 : decode prog_3_method_12_code 196 = .ok (.invokestatic 83, 3) := by decide +kernel
theorem d174_199 : decode prog_3_method_12_code 199 = .ok (.ifCond .eq 16, 3) := by decide +kernel
theorem d174_202 : decode prog_3_method_12_code 202 = .ok (.iload 7, 2) := by decide +kernel
theorem d174_204 : decode prog_3_method_12_code 204 = .ok (.invokestatic 83, 3) := by decide +kernel
theorem d174_207 : decode prog_3_method_12_code 207 = .ok (.ifCond .eq 8, 3) := by decide +kernel
theorem d174_210 : decode prog_3_method_12_code 210 = .ok (.iload 6, 2) := by decide +kernel
theorem d174_212 : decode prog_3_method_12_code 212 = .ok (.goto 4, 3) := by decide +kernel
theorem d174_215 : decode prog_3_method_12_code 215 = .ok (.iconst (-1), 1) := by decide +kernel
theorem d174_216 : decode prog_3_method_12_code 216 = .ok (.ireturn, 1) := by decide +kernel
theorem d174_217 : decode prog_3_method_12_code 217 = .ok (.iconst 1, 1) := by decide +kernel
theorem d174_218 : decode prog_3_method_12_code 218 = .ok (.ireturn, 1) := by decide +kernel
theorem d174_219 : decode prog_3_method_12_code 219 = .ok (.iconst 2, 1) := by decide +kernel
theorem d174_220 : decode prog_3_method_12_code 220 = .ok (.ireturn, 1) := by decide +kernel
theorem d174_221 : decode prog_3_method_12_code 221 = .ok (.iload 6, 2) := by decide +kernel
theorem d174_223 : decode prog_3_method_12_code 223 = .ok (.invokestatic 83, 3) := by decide +kernel
theorem d174_226 : decode prog_3_method_12_code 226 = .ok (.ifCond .eq 7, 3) := by decide +kernel
theorem d174_229 : decode prog_3_method_12_code 229 = .ok (.iconst 0, 1) := by decide +kernel
theorem d174_230 : decode prog_3_method_12_code 230 = .ok (.goto 4, 3) := by decide +kernel
theorem d174_233 : decode prog_3_method_12_code 233 = .ok (.iconst (-1), 1) := by decide +kernel
theorem d174_234 : decode prog_3_method_12_code 234 = .ok (.ireturn, 1) := by decide +kernel
theorem m174 : pm_m 174 = some (⟨"TypeRules$Expressions", "standardResult", "(II)I"⟩, prog_3_method_12_code, 9, (some FieldType.int), 8, 2, 9) := rfl
/-! CALLS of the class -/
theorem rl_rowl {l : List pg_N} {s e n : Nat} (he : e ≤ l.length) (hc : rl_cl l s e) (h : (rl_row l s e).length = n + 1) : s < e ∧ rl_row l s e = s :: rl_row l (s + rl_z l s) e ∧ (rl_row l (s + rl_z l s) e).length = n ∧ s + rl_z l s ≤ e ∧ s < s + rl_z l s ∧ rl_cl l (s + rl_z l s) e := by
  rcases Nat.lt_or_ge s e with q | q
  · have e1 := rl_rowu he hc q
    rw [e1, List.length_cons] at h
    obtain ⟨c1, c2, c3⟩ := rl_clz hc q
    exact ⟨q, e1, by omega, c1, c2, c3⟩
  · rw [rl_row0 (by omega)] at h; cases h
theorem rl_rowz {l : List pg_N} {s e : Nat} (he : e ≤ l.length) (hc : rl_cl l s e) (h : (rl_row l s e).length = 0) (hs : s ≤ e) : s = e ∧ rl_row l s e = [] := by
  rcases Nat.lt_or_ge s e with q | q
  · rw [rl_rowu he hc q] at h; cases h
  · exact ⟨by omega, rl_row0 (by omega)⟩
theorem ck72l {d : Nat} {σ : pm_S} {Q : Option Value → pm_S → Prop} {l : List pg_N} {i e : Nat} (h : ct_Z l σ) (he : e ≤ l.length) : ∀ (n c k : Nat), e - c ≤ n → k + n < 2 ^ 30 → c ≤ e → rl_cl l c e → Q (some (.int (nI (k + (rl_row l c e).length)))) σ → pm_WP pm_Y0 (pm_call pm_Y0 (d + 1)) 3 prog_10_method_21_code (some FieldType.int) Q 13 [.ref 3, .int (nI i), .int (nI k), .int (nI e), .int (nI c)] [] σ := by
  have hl := h.1
  have ee := nI_toInt (n := e) (by omega)
  intro n
  induction n with
  | zero =>
    intro c k hn hk hce hc hQ
    have ec := nI_toInt (n := c) (by omega)
    rw [rl_row0 (by omega), List.length_nil, Nat.add_zero] at hQ
    refine wq_l 15 d72_13 rfl rfl rfl rfl ?_
    refine wq_l 16 d72_15 rfl rfl rfl rfl ?_
    refine wq_b 33 19 d72_16 rfl (by decide) rfl (fun c16 => ?_) (fun c16 => absurd (by rw [i_le, ee, ec]; omega) c16)
    refine wq_l 34 d72_33 rfl rfl rfl rfl ?_
    refine wq_ri d72_34 (rfl) ?_
    exact hQ
  | succ n ih =>
    intro c k hn hk hce hc hQ
    have ec := nI_toInt (n := c) (by omega)
    by_cases q : c < e
    · rw [rl_rowu he hc q, List.length_cons, show k + ((rl_row l (c + rl_z l c) e).length + 1) = (k + 1) + (rl_row l (c + rl_z l c) e).length by omega] at hQ
      obtain ⟨c1, c2, c3⟩ := rl_clz hc q
      refine wq_l 15 d72_13 rfl rfl rfl rfl ?_
      refine wq_l 16 d72_15 rfl rfl rfl rfl ?_
      refine wq_b 33 19 d72_16 rfl (by decide) rfl (fun c16 => absurd c16 (by rw [i_le, ee, ec]; omega)) (fun c16 => ?_)
      refine wq_i 22 d72_19 rfl rfl rfl ?_
      refine wq_l 23 d72_22 rfl rfl rfl rfl ?_
      refine wq_l 25 d72_23 rfl rfl rfl rfl ?_
      refine wq_v 28 [_] d72_25 rfl rfl m63 rfl rfl (Nat.le_of_ble_eq_true rfl) rfl (ck63 h (by omega) ?_)
      refine wq_s 30 d72_28 rfl rfl (Nat.le_of_ble_eq_true rfl) rfl rfl ?_
      refine wq_g 13 d72_30 (by decide) ?_
      rw [show nI k + Int32.ofInt 1 = nI (k + 1) from nI_1 k]
      exact ih (c + rl_z l c) (k + 1) (by omega) (by omega) c1 c3 hQ
    · rw [rl_row0 (by omega), List.length_nil, Nat.add_zero] at hQ
      refine wq_l 15 d72_13 rfl rfl rfl rfl ?_
      refine wq_l 16 d72_15 rfl rfl rfl rfl ?_
      refine wq_b 33 19 d72_16 rfl (by decide) rfl (fun c16 => ?_) (fun c16 => absurd (by rw [i_le, ee, ec]; omega) c16)
      refine wq_l 34 d72_33 rfl rfl rfl rfl ?_
      refine wq_ri d72_34 (rfl) ?_
      exact hQ
theorem ck72 {d : Nat} {σ : pm_S} {Q : Option Value → pm_S → Prop} {l : List pg_N} {NN i : Nat} (hG : lg_G l NN) (h : ct_Z l σ) (hi : i < l.length) (hQ : Q (some (.int (nI (rl_c l i).length))) σ) : pm_call pm_Y0 (d + 2) 72 [.ref 3, .int (nI i)] σ Q := by
  obtain ⟨z1, z2, z3⟩ := lg_cl hG hi
  have hl := h.1
  refine wq_m m72 (Nat.le_of_ble_eq_true rfl) (by decide) rfl ?_
  refine wq_k 1 0 d72_0 (by decide) rfl ?_
  refine wq_s 2 d72_1 rfl rfl (Nat.le_of_ble_eq_true rfl) rfl rfl ?_
  refine wq_l 3 d72_2 rfl rfl rfl rfl ?_
  refine wq_l 4 d72_3 rfl rfl rfl rfl ?_
  refine wq_v 7 [_] d72_4 rfl rfl m63 rfl rfl (Nat.le_of_ble_eq_true rfl) rfl (ck63 h hi ?_)
  refine wq_s 8 d72_7 rfl rfl (Nat.le_of_ble_eq_true rfl) rfl rfl ?_
  refine wq_l 9 d72_8 rfl rfl rfl rfl ?_
  refine wq_k 10 1 d72_9 (by decide) rfl ?_
  refine wq_a 11 d72_10 rfl rfl ?_
  rw [nI_1]
  refine wq_s 13 d72_11 rfl rfl (Nat.le_of_ble_eq_true rfl) rfl rfl ?_
  refine ck72l h z1 (i + rl_z l i) (i + 1) 0 (by omega) (by omega) (by omega) z3 ?_
  rw [Nat.zero_add]
  exact hQ
def rl_lp (l : List pg_N) (x : Int32) (j : Nat) : Bool := rl_k l j == 19 && (decide (x = -1) || decide (rl_v l j = x))
theorem rl_up0 (l : List pg_N) : rl_up l 0 = [] := rfl
theorem rl_upu {l : List pg_N} {NN c : Nat} (hG : lg_G l NN) (hc : c < l.length) (hp : 0 < c) : rl_up l c = rl_par l c :: rl_up l (rl_par l c) ∧ rl_par l c < c := by
  obtain ⟨h1, h2, _⟩ := lg_par hG hc hp
  exact ⟨rl_upc hG.1 (by omega) h2, h1⟩
theorem ck73l {d : Nat} {σ0 σ : pm_S} {Q : Option Value → pm_S → Prop} {l : List pg_N} {NN nx i : Nat} {A : rl_A} {x : Int32} (hG : lg_G l NN) (h : cr_I l NN σ0 σ nx A) : ∀ (left c : Nat), c ≤ left → left ≤ l.length → c < l.length → c < nx → Q (some (.int (b2 ((rl_up l c).any (rl_lp l x))))) σ → pm_WP pm_Y0 (pm_call pm_Y0 (d + 1)) 3 prog_10_method_22_code (some FieldType.boolean) Q 12 [.ref 3, .int (nI i), .int x, .int (hp_oi (rl_up l c).head?), .int (nI left)] [] σ := by
  have hl := h.2.1.1
  intro left
  induction left with
  | zero =>
    intro c hk _ _ _ hQ
    have : c = 0 := by omega
    subst this
    refine wq_l 14 d73_12 rfl rfl rfl rfl ?_
    refine wq_b 60 17 d73_14 rfl (by decide) rfl (fun c14 => ?_) (fun c14 => absurd (by decide) c14)
    refine wq_k 61 0 d73_60 (by decide) rfl ?_
    refine wq_ri d73_61 (rfl) ?_
    exact hQ
  | succ left ih =>
    intro c hk hll hc hn hQ
    have el := nI_toInt (n := left + 1) (by omega)
    by_cases hc0 : c = 0
    · subst hc0
      refine wq_l 14 d73_12 rfl rfl rfl rfl ?_
      refine wq_b 60 17 d73_14 rfl (by decide) rfl (fun c14 => absurd c14 (by rw [i_le, el]; show ¬ (_ : Int) ≤ 0; omega)) (fun c14 => ?_)
      refine wq_l 18 d73_17 rfl rfl rfl rfl ?_
      refine wq_k 19 (-1) d73_18 (by decide) rfl ?_
      refine wq_b 60 22 d73_19 rfl (by decide) rfl (fun c19 => ?_) (fun c19 => absurd (rfl) c19)
      refine wq_k 61 0 d73_60 (by decide) rfl ?_
      refine wq_ri d73_61 (rfl) ?_
      exact hQ
    · obtain ⟨u1, u2⟩ := rl_upu hG hc (by omega)
      rw [u1] at hQ ⊢
      generalize rl_par l c = p at *
      have hp : hp_oi (p :: rl_up l p).head? = nI p := rfl
      rw [hp]
      have ek := nI_toInt (n := rl_k l p) (by have := ((cr_S h).2.2.2 p (by omega)).1; omega)
      have hkb : rl_k l p < 2 ^ 30 := by have := ((cr_S h).2.2.2 p (by omega)).1; omega
      have hyes : rl_k l p = 19 → (x = -1 ∨ rl_v l p = x) → Q (some (.int 1)) σ := fun q1 q2 => by
        have e : (p :: rl_up l p).any (rl_lp l x) = true := by
          rw [List.any_cons]
          have : rl_lp l x p = true := by
            unfold rl_lp
            rw [q1]
            rcases q2 with q | q
            · rw [decide_eq_true q]; rfl
            · rw [decide_eq_true q, Bool.or_true]; rfl
          rw [this, Bool.true_or]
        rw [e] at hQ; exact hQ
      have hno : ¬ (rl_k l p = 19 ∧ (x = -1 ∨ rl_v l p = x)) → Q (some (.int (b2 ((rl_up l p).any (rl_lp l x))))) σ := fun q => by
        have e : (p :: rl_up l p).any (rl_lp l x) = (rl_up l p).any (rl_lp l x) := by
          rw [List.any_cons]
          have : rl_lp l x p = false := by
            unfold rl_lp
            by_cases q1 : rl_k l p = 19
            · rw [decide_eq_false (fun z => q ⟨q1, Or.inl z⟩), decide_eq_false (fun z => q ⟨q1, Or.inr z⟩), Bool.or_self, Bool.and_false]
            · rw [show (rl_k l p == 19) = false from beq_eq_false_iff_ne.mpr q1, Bool.false_and]
          rw [this, Bool.false_or]
        rw [e] at hQ; exact hQ
      clear hQ
      refine wq_l 14 d73_12 rfl rfl rfl rfl ?_
      refine wq_b 60 17 d73_14 rfl (by decide) rfl (fun c14 => absurd c14 (by rw [i_le, el]; show ¬ (_ : Int) ≤ 0; omega)) (fun c14 => ?_)
      refine wq_l 18 d73_17 rfl rfl rfl rfl ?_
      refine wq_k 19 (-1) d73_18 (by decide) rfl ?_
      refine wq_b 60 22 d73_19 rfl (by decide) rfl (fun c19 => absurd c19 (hp_ne (by omega))) (fun c19 => ?_)
      refine wq_l 23 d73_22 rfl rfl rfl rfl ?_
      refine wq_l 24 d73_23 rfl rfl rfl rfl ?_
      refine wq_v 27 [_] d73_24 rfl rfl m65 rfl rfl (Nat.le_of_ble_eq_true rfl) rfl (ck65 (cr_S h) (by omega) ?_)
      refine wq_k 29 19 d73_27 (by decide) rfl ?_
      refine wq_b 48 32 d73_29 rfl (by decide) rfl (fun c29 => ?_) (fun c29 => ?_)
      · -- pc 48
        refine wq_l 49 d73_48 rfl rfl rfl rfl ?_
        refine wq_l 50 d73_49 rfl rfl rfl rfl ?_
        refine wq_v 53 [_] d73_50 rfl rfl m69 rfl rfl (Nat.le_of_ble_eq_true rfl) rfl (ck69 h (by omega) (by omega) ?_)
        refine wq_s 54 d73_53 rfl rfl (Nat.le_of_ble_eq_true rfl) rfl rfl ?_
        refine wq_i 57 d73_54 rfl rfl rfl ?_
        refine wq_g 12 d73_57 (by decide) ?_
        rw [show nI (left + 1) + Int32.ofInt (-1) = nI left from nI_m1 left]
        exact ih p (by omega) (by omega) (by omega) (by omega) (hno (fun z => c29 (by rw [z.1]; rfl)))
      · -- pc 32
        refine wq_l 33 d73_32 rfl rfl rfl rfl ?_
        refine wq_k 34 (-1) d73_33 (by decide) rfl ?_
        refine wq_b 46 37 d73_34 rfl (by decide) rfl (fun c34 => ?_) (fun c34 => ?_)
        · -- pc 46
          refine wq_k 47 1 d73_46 (by decide) rfl ?_
          refine wq_ri d73_47 (rfl) ?_
          first | exact hyes (hp_inj (by omega) (by omega) (Classical.not_not.mp c29)) (Or.inl c34) | exact hyes (hp_inj (by omega) (by omega) (Classical.not_not.mp c29)) (Or.inr (Classical.not_not.mp c43))
        · -- pc 37
          refine wq_l 38 d73_37 rfl rfl rfl rfl ?_
          refine wq_l 39 d73_38 rfl rfl rfl rfl ?_
          refine wq_v 42 [_] d73_39 rfl rfl m66 rfl rfl (Nat.le_of_ble_eq_true rfl) rfl (ck66 (cr_S h) (by omega) ?_)
          refine wq_l 43 d73_42 rfl rfl rfl rfl ?_
          refine wq_b 48 46 d73_43 rfl (by decide) rfl (fun c43 => ?_) (fun c43 => ?_)
          · -- pc 48
            refine wq_l 49 d73_48 rfl rfl rfl rfl ?_
            refine wq_l 50 d73_49 rfl rfl rfl rfl ?_
            refine wq_v 53 [_] d73_50 rfl rfl m69 rfl rfl (Nat.le_of_ble_eq_true rfl) rfl (ck69 h (by omega) (by omega) ?_)
            refine wq_s 54 d73_53 rfl rfl (Nat.le_of_ble_eq_true rfl) rfl rfl ?_
            refine wq_i 57 d73_54 rfl rfl rfl ?_
            refine wq_g 12 d73_57 (by decide) ?_
            rw [show nI (left + 1) + Int32.ofInt (-1) = nI left from nI_m1 left]
            exact ih p (by omega) (by omega) (by omega) (by omega) (hno (fun z => z.2.elim (fun w => c34 w) (fun w => c43 w)))
          · -- pc 46
            refine wq_k 47 1 d73_46 (by decide) rfl ?_
            refine wq_ri d73_47 (rfl) ?_
            first | exact hyes (hp_inj (by omega) (by omega) (Classical.not_not.mp c29)) (Or.inl c34) | exact hyes (hp_inj (by omega) (by omega) (Classical.not_not.mp c29)) (Or.inr (Classical.not_not.mp c43))
theorem ck73 {d : Nat} {σ0 σ : pm_S} {Q : Option Value → pm_S → Prop} {l : List pg_N} {NN nx i : Nat} {A : rl_A} {x : Int32} (hG : lg_G l NN) (h : cr_I l NN σ0 σ nx A) (hi : i < l.length) (hn : i < nx) (hQ : Q (some (.int (b2 ((rl_up l i).any (rl_lp l x))))) σ) : pm_call pm_Y0 (d + 2) 73 [.ref 3, .int (nI i), .int x] σ Q := by
  have ec := (cr_S h).2.2.1
  refine wq_m m73 (Nat.le_of_ble_eq_true rfl) (by decide) rfl ?_
  refine wq_l 1 d73_0 rfl rfl rfl rfl ?_
  refine wq_l 2 d73_1 rfl rfl rfl rfl ?_
  refine wq_v 5 [_] d73_2 rfl rfl m69 rfl rfl (Nat.le_of_ble_eq_true rfl) rfl (ck69 h hi hn ?_)
  refine wq_s 6 d73_5 rfl rfl (Nat.le_of_ble_eq_true rfl) rfl rfl ?_
  refine wq_l 7 d73_6 rfl rfl rfl rfl ?_
  refine wq_gf (ci := 3) (j := 8) (f := 0) (v := .int (nI l.length)) 10 d73_7 rfl rfl rfl (congrArg Value.int (ec)) rfl ?_
  refine wq_s 12 d73_10 rfl rfl (Nat.le_of_ble_eq_true rfl) rfl rfl ?_
  exact ck73l hG h l.length i (by omega) (Nat.le_refl _) hi hn hQ
theorem sp22 {d : Nat} {σ : pm_S} {Q : Option Value → pm_S → Prop} {x : Int32} (hQ : Q (some (.int (hp_oi (rl_fn x)))) σ) : pm_call pm_Y0 (d + 1) 22 [.int x] σ Q := by
  unfold rl_fn at hQ
  refine wq_m m22 (Nat.le_of_ble_eq_true rfl) (by decide) rfl ?_
  refine wq_l 1 d22_0 rfl rfl rfl rfl ?_
  refine wq_k 3 50 d22_1 (by decide) rfl ?_
  refine wq_b 19 6 d22_3 rfl (by decide) rfl (fun c3 => ?_) (fun c3 => ?_)
  · -- pc 19
    refine wq_k 20 (-1) d22_19 (by decide) rfl ?_
    refine wq_ri d22_20 (rfl) ?_
    first
      | (rw [if_neg (by simp only [i_lt, Int32.reduceToInt] at c3; omega)] at hQ; exact hQ)
      | (rw [if_neg (by simp only [i_le, Int32.reduceToInt] at c9; omega)] at hQ; exact hQ)
      | (rw [if_pos (by simp only [i_lt, i_le, Int32.reduceToInt] at c3 c9; omega)] at hQ
         have e : x - 50 = nI (x.toNatClampNeg - 50) := by
           have h50 : 50 ≤ x.toInt := by simp only [i_lt, Int32.reduceToInt] at c3; omega
           have := cl_i x (by omega)
           conv => lhs; rw [← nI_cl x (by omega), show x.toNatClampNeg = (x.toNatClampNeg - 50) + 50 by omega]
           exact nI_sb _ 50
         rw [show x - (50 : Int32) = nI (x.toNatClampNeg - 50) from e]
         exact hQ)
  · -- pc 6
    refine wq_l 7 d22_6 rfl rfl rfl rfl ?_
    refine wq_k 9 60 d22_7 (by decide) rfl ?_
    refine wq_b 19 12 d22_9 rfl (by decide) rfl (fun c9 => ?_) (fun c9 => ?_)
    · -- pc 19
      refine wq_k 20 (-1) d22_19 (by decide) rfl ?_
      refine wq_ri d22_20 (rfl) ?_
      first
        | (rw [if_neg (by simp only [i_lt, Int32.reduceToInt] at c3; omega)] at hQ; exact hQ)
        | (rw [if_neg (by simp only [i_le, Int32.reduceToInt] at c9; omega)] at hQ; exact hQ)
        | (rw [if_pos (by simp only [i_lt, i_le, Int32.reduceToInt] at c3 c9; omega)] at hQ
           have e : x - 50 = nI (x.toNatClampNeg - 50) := by
             have h50 : 50 ≤ x.toInt := by simp only [i_lt, Int32.reduceToInt] at c3; omega
             have := cl_i x (by omega)
             conv => lhs; rw [← nI_cl x (by omega), show x.toNatClampNeg = (x.toNatClampNeg - 50) + 50 by omega]
             exact nI_sb _ 50
           rw [show x - (50 : Int32) = nI (x.toNatClampNeg - 50) from e]
           exact hQ)
    · -- pc 12
      refine wq_l 13 d22_12 rfl rfl rfl rfl ?_
      refine wq_k 15 50 d22_13 (by decide) rfl ?_
      refine wq_a 16 d22_15 rfl rfl ?_
      refine wq_g 20 d22_16 (by decide) ?_
      refine wq_ri d22_20 (rfl) ?_
      first
        | (rw [if_neg (by simp only [i_lt, Int32.reduceToInt] at c3; omega)] at hQ; exact hQ)
        | (rw [if_neg (by simp only [i_le, Int32.reduceToInt] at c9; omega)] at hQ; exact hQ)
        | (rw [if_pos (by simp only [i_lt, i_le, Int32.reduceToInt] at c3 c9; omega)] at hQ
           have e : x - 50 = nI (x.toNatClampNeg - 50) := by
             have h50 : 50 ≤ x.toInt := by simp only [i_lt, Int32.reduceToInt] at c3; omega
             have := cl_i x (by omega)
             conv => lhs; rw [← nI_cl x (by omega), show x.toNatClampNeg = (x.toNatClampNeg - 50) + 50 by omega]
             exact nI_sb _ 50
           rw [show x - (50 : Int32) = nI (x.toNatClampNeg - 50) from e]
           exact hQ)
theorem sp171 {d : Nat} {σ : pm_S} {Q : Option Value → pm_S → Prop} {f : Nat} (hf : f < 10) (hQ : Q (some (.int (nI (rl_ops f)))) σ) : pm_call pm_Y0 (d + 1) 171 [.int (nI f)] σ Q := by
  have ef := nI_toInt (n := f) (by omega)
  have ec := nI_clamp (n := f) (by omega)
  refine wq_m m171 (Nat.le_of_ble_eq_true rfl) (by decide) rfl ?_
  refine wq_l 1 d171_0 rfl rfl rfl rfl ?_
  refine wq_b 20 4 d171_1 rfl (by decide) rfl (fun c1 => absurd c1 (by rw [i_lt, ef]; show ¬ (f : Int) < 0; omega)) (fun c1 => ?_)
  refine wq_l 5 d171_4 rfl rfl rfl rfl ?_
  refine wq_st 8 d171_5 rfl rfl ?_
  refine wq_sn 9 d171_8 rfl rfl rfl ?_
  refine wq_b 20 12 d171_9 rfl (by decide) rfl (fun c9 => absurd c9 (by rw [i_le, ef]; show ¬ (10 : Int) ≤ f; omega)) (fun c9 => ?_)
  refine wq_st 15 d171_12 rfl rfl ?_
  refine wq_l 16 d171_15 rfl rfl rfl rfl ?_
  refine wq_sl 17 d171_16 rfl rfl (vp_in_iff.mpr (by rw [ef]; show _ ∧ _ < (10 : Int); omega)) rfl ?_
  refine wq_g 21 d171_17 (by decide) ?_
  refine wq_ri d171_21 (rfl) ?_
  rw [ec]
  have h10 : f = 0 ∨ f = 1 ∨ f = 2 ∨ f = 3 ∨ f = 4 ∨ f = 5 ∨ f = 6 ∨ f = 7 ∨ f = 8 ∨ f = 9 := by omega
  rcases h10 with q | q | q | q | q | q | q | q | q | q <;> (subst q; exact hQ)
