theorem d146_0 : decode prog_7_method_9_code 0 = .ok (.aload_n 0, 1) := by decide +kernel
theorem d146_1 : decode prog_7_method_9_code 1 = .ok (.getfield 9, 3) := by decide +kernel
theorem d146_4 : decode prog_7_method_9_code 4 = .ok (.iload_n 1, 1) := by decide +kernel
theorem d146_5 : decode prog_7_method_9_code 5 = .ok (.invokevirtual 110, 3) := by decide +kernel
theorem d146_8 : decode prog_7_method_9_code 8 = .ok (.istore_n 2, 1) := by decide +kernel
theorem d146_9 : decode prog_7_method_9_code 9 = .ok (.aload_n 0, 1) := by decide +kernel
theorem d146_10 : decode prog_7_method_9_code 10 = .ok (.iconst 3, 1) := by decide +kernel
theorem d146_11 : decode prog_7_method_9_code 11 = .ok (.invokevirtual 166, 3) := by decide +kernel
theorem d146_14 : decode prog_7_method_9_code 14 = .ok (.ifCond .eq 7, 3) := by decide +kernel
theorem d146_17 : decode prog_7_method_9_code 17 = .ok (.iload_n 2, 1) := by decide +kernel
theorem d146_18 : decode prog_7_method_9_code 18 = .ok (.ifCond .ne 16, 3) := by decide +kernel
theorem d146_21 : decode prog_7_method_9_code 21 = .ok (.aload_n 0, 1) := by decide +kernel
theorem d146_22 : decode prog_7_method_9_code 22 = .ok (.iconst 1, 1) := by decide +kernel
theorem d146_23 : decode prog_7_method_9_code 23 = .ok (.invokevirtual 166, 3) := by decide +kernel
theorem d146_26 : decode prog_7_method_9_code 26 = .ok (.ifCond .eq 11, 3) := by decide +kernel
theorem d146_29 : decode prog_7_method_9_code 29 = .ok (.iload_n 2, 1) := by decide +kernel
theorem d146_30 : decode prog_7_method_9_code 30 = .ok (.iconst 2, 1) := by decide +kernel
theorem d146_31 : decode prog_7_method_9_code 31 = .ok (.if_icmp .ne 6, 3) := by decide +kernel
theorem d146_34 : decode prog_7_method_9_code 34 = .ok (.bipush 13, 2) := by decide +kernel
theorem d146_36 : decode prog_7_method_9_code 36 = .ok (.ireturn, 1) := by decide +kernel
theorem d146_37 : decode prog_7_method_9_code 37 = .ok (.iconst 0, 1) := by decide +kernel
theorem d146_38 : decode prog_7_method_9_code 38 = .ok (.ireturn, 1) := by decide +kernel
theorem m146 : pm_m 146 = some (⟨"TypeRules$Rules", "sectionFault", "(I)I"⟩, prog_7_method_9_code, 3, (some FieldType.int), 7, 1, 8) := rfl
theorem d155_0 : decode prog_7_method_13_code 0 = .ok (.aload_n 0, 1) := by decide +kernel
theorem d155_1 : decode prog_7_method_13_code 1 = .ok (.getfield 9, 3) := by decide +kernel
theorem d155_4 : decode prog_7_method_13_code 4 = .ok (.iload_n 1, 1) := by decide +kernel
theorem d155_5 : decode prog_7_method_13_code 5 = .ok (.invokevirtual 110, 3) := by decide +kernel
theorem d155_8 : decode prog_7_method_13_code 8 = .ok (.bipush 8, 2) := by decide +kernel
theorem d155_10 : decode prog_7_method_13_code 10 = .ok (.ishr, 1) := by decide +kernel
theorem d155_11 : decode prog_7_method_13_code 11 = .ok (.istore_n 2, 1) := by decide +kernel
theorem d155_12 : decode prog_7_method_13_code 12 = .ok (.iload_n 2, 1) := by decide +kernel
theorem d155_13 : decode prog_7_method_13_code 13 = .ok (.ifCond .lt 11, 3) := by decide +kernel
theorem d155_16 : decode prog_7_method_13_code 16 = .ok (.iload_n 2, 1) := by decide +kernel
theorem d155_17 : decode prog_7_method_13_code 17 = .ok (.getstatic 199, 3) := by decide +kernel
theorem d155_20 : decode prog_7_method_13_code 20 = .ok (.arraylength, 1) := by decide +kernel
theorem d155_21 : decode prog_7_method_13_code 21 = .ok (.if_icmp .lt 5, 3) := by decide +kernel
theorem d155_24 : decode prog_7_method_13_code 24 = .ok (.iconst (-1), 1) := by decide +kernel
theorem d155_25 : decode prog_7_method_13_code 25 = .ok (.ireturn, 1) := by decide +kernel
theorem d155_26 : decode prog_7_method_13_code 26 = .ok (.getstatic 199, 3) := by decide +kernel
theorem d155_29 : decode prog_7_method_13_code 29 = .ok (.iload_n 2, 1) := by decide +kernel
theorem d155_30 : decode prog_7_method_13_code 30 = .ok (.iaload, 1) := by decide +kernel
theorem d155_31 : decode prog_7_method_13_code 31 = .ok (.aload_n 0, 1) := by decide +kernel
theorem d155_32 : decode prog_7_method_13_code 32 = .ok (.getfield 9, 3) := by decide +kernel
theorem d155_35 : decode prog_7_method_13_code 35 = .ok (.iload_n 1, 1) := by decide +kernel
theorem d155_36 : decode prog_7_method_13_code 36 = .ok (.invokevirtual 110, 3) := by decide +kernel
theorem d155_39 : decode prog_7_method_13_code 39 = .ok (.sipush 255, 3) := by decide +kernel
theorem d155_42 : decode prog_7_method_13_code 42 = .ok (.iand, 1) := by decide +kernel
theorem d155_43 : decode prog_7_method_13_code 43 = .ok (.iadd, 1) := by decide +kernel
theorem d155_44 : decode prog_7_method_13_code 44 = .ok (.istore_n 3, 1) := by decide +kernel
theorem d155_45 : decode prog_7_method_13_code 45 = .ok (.iload_n 3, 1) := by decide +kernel
theorem d155_46 : decode prog_7_method_13_code 46 = .ok (.aload_n 0, 1) := by decide +kernel
theorem d155_47 : decode prog_7_method_13_code 47 = .ok (.getfield 48, 3) := by decide +kernel
theorem d155_50 : decode prog_7_method_13_code 50 = .ok (.arraylength, 1) := by decide +kernel
theorem d155_51 : decode prog_7_method_13_code 51 = .ok (.if_icmp .ge 7, 3) := by decide +kernel
theorem d155_54 : decode prog_7_method_13_code 54 = .ok (.iload_n 3, 1) := by decide +kernel
theorem d155_55 : decode prog_7_method_13_code 55 = .ok (.goto 4, 3) := by decide +kernel
theorem d155_58 : decode prog_7_method_13_code 58 = .ok (.iconst (-1), 1) := by decide +kernel
theorem d155_59 : decode prog_7_method_13_code 59 = .ok (.ireturn, 1) := by decide +kernel
theorem m155 : pm_m 155 = some (⟨"TypeRules$Rules", "placeCell", "(I)I"⟩, prog_7_method_13_code, 4, (some FieldType.int), 7, 1, 8) := rfl
theorem d160_0 : decode prog_7_method_12_code 0 = .ok (.iload_n 1, 1) := by decide +kernel
theorem d160_1 : decode prog_7_method_12_code 1 = .ok (.aload_n 0, 1) := by decide +kernel
theorem d160_2 : decode prog_7_method_12_code 2 = .ok (.getfield 9, 3) := by decide +kernel
theorem d160_5 : decode prog_7_method_12_code 5 = .ok (.iload_n 1, 1) := by decide +kernel
theorem d160_6 : decode prog_7_method_12_code 6 = .ok (.invokevirtual 86, 3) := by decide +kernel
theorem d160_9 : decode prog_7_method_12_code 9 = .ok (.isub, 1) := by decide +kernel
theorem d160_10 : decode prog_7_method_12_code 10 = .ok (.iconst 1, 1) := by decide +kernel
theorem d160_11 : decode prog_7_method_12_code 11 = .ok (.isub, 1) := by decide +kernel
theorem d160_12 : decode prog_7_method_12_code 12 = .ok (.istore_n 2, 1) := by decide +kernel
theorem d160_13 : decode prog_7_method_12_code 13 = .ok (.aload_n 0, 1) := by decide +kernel
theorem d160_14 : decode prog_7_method_12_code 14 = .ok (.iload_n 1, 1) := by decide +kernel
theorem d160_15 : decode prog_7_method_12_code 15 = .ok (.invokevirtual 196, 3) := by decide +kernel
theorem d160_18 : decode prog_7_method_12_code 18 = .ok (.istore_n 3, 1) := by decide +kernel
theorem d160_19 : decode prog_7_method_12_code 19 = .ok (.aload_n 0, 1) := by decide +kernel
theorem d160_20 : decode prog_7_method_12_code 20 = .ok (.iconst 3, 1) := by decide +kernel
theorem d160_21 : decode prog_7_method_12_code 21 = .ok (.invokevirtual 166, 3) := by decide +kernel
theorem d160_24 : decode prog_7_method_12_code 24 = .ok (.ifCond .eq 22, 3) := by decide +kernel
theorem d160_27 : decode prog_7_method_12_code 27 = .ok (.iload_n 2, 1) := by decide +kernel
theorem d160_28 : decode prog_7_method_12_code 28 = .ok (.iconst 1, 1) := by decide +kernel
theorem d160_29 : decode prog_7_method_12_code 29 = .ok (.if_icmp .gt 17, 3) := by decide +kernel
theorem d160_32 : decode prog_7_method_12_code 32 = .ok (.iload_n 3, 1) := by decide +kernel
theorem d160_33 : decode prog_7_method_12_code 33 = .ok (.iconst (-1), 1) := by decide +kernel
theorem d160_34 : decode prog_7_method_12_code 34 = .ok (.if_icmp .eq 12, 3) := by decide +kernel
theorem d160_37 : decode prog_7_method_12_code 37 = .ok (.aload_n 0, 1) := by decide +kernel
theorem d160_38 : decode prog_7_method_12_code 38 = .ok (.getfield 48, 3) := by decide +kernel
theorem d160_41 : decode prog_7_method_12_code 41 = .ok (.iload_n 3, 1) := by decide +kernel
theorem d160_42 : decode prog_7_method_12_code 42 = .ok (.iaload, 1) := by decide +kernel
theorem d160_43 : decode prog_7_method_12_code 43 = .ok (.ifCond .eq 6, 3) := by decide +kernel
theorem d160_46 : decode prog_7_method_12_code 46 = .ok (.bipush 14, 2) := by decide +kernel
theorem d160_48 : decode prog_7_method_12_code 48 = .ok (.ireturn, 1) := by decide +kernel
theorem d160_49 : decode prog_7_method_12_code 49 = .ok (.aload_n 0, 1) := by decide +kernel
theorem d160_50 : decode prog_7_method_12_code 50 = .ok (.getfield 48, 3) := by decide +kernel
theorem d160_53 : decode prog_7_method_12_code 53 = .ok (.iload_n 3, 1) := by decide +kernel
theorem d160_54 : decode prog_7_method_12_code 54 = .ok (.iconst 1, 1) := by decide +kernel
theorem d160_55 : decode prog_7_method_12_code 55 = .ok (.iastore, 1) := by decide +kernel
theorem d160_56 : decode prog_7_method_12_code 56 = .ok (.iconst 0, 1) := by decide +kernel
theorem d160_57 : decode prog_7_method_12_code 57 = .ok (.ireturn, 1) := by decide +kernel
theorem m160 : pm_m 160 = some (⟨"TypeRules$Rules", "placeFault", "(I)I"⟩, prog_7_method_12_code, 4, (some FieldType.int), 7, 1, 8) := rfl
theorem d157_0 : decode prog_7_method_15_code 0 = .ok (.aload_n 0, 1) := by decide +kernel
theorem d157_1 : decode prog_7_method_15_code 1 = .ok (.getfield 9, 3) := by decide +kernel
theorem d157_4 : decode prog_7_method_15_code 4 = .ok (.iload_n 1, 1) := by decide +kernel
theorem d157_5 : decode prog_7_method_15_code 5 = .ok (.iconst 2, 1) := by decide +kernel
theorem d157_6 : decode prog_7_method_15_code 6 = .ok (.iadd, 1) := by decide +kernel
theorem d157_7 : decode prog_7_method_15_code 7 = .ok (.invokevirtual 110, 3) := by decide +kernel
theorem d157_10 : decode prog_7_method_15_code 10 = .ok (.i2l, 1) := by decide +kernel
theorem d157_11 : decode prog_7_method_15_code 11 = .ok (.aload_n 0, 1) := by decide +kernel
theorem d157_12 : decode prog_7_method_15_code 12 = .ok (.getfield 9, 3) := by decide +kernel
theorem d157_15 : decode prog_7_method_15_code 15 = .ok (.iload_n 1, 1) := by decide +kernel
theorem d157_16 : decode prog_7_method_15_code 16 = .ok (.iconst 1, 1) := by decide +kernel
theorem d157_17 : decode prog_7_method_15_code 17 = .ok (.iadd, 1) := by decide +kernel
theorem d157_18 : decode prog_7_method_15_code 18 = .ok (.invokevirtual 110, 3) := by decide +kernel
theorem d157_21 : decode prog_7_method_15_code 21 = .ok (.i2l, 1) := by decide +kernel
theorem d157_22 : decode prog_7_method_15_code 22 = .ok (.lsub, 1) := by decide +kernel
theorem d157_23 : decode prog_7_method_15_code 23 = .ok (.lconst 1, 1) := by decide +kernel
theorem d157_24 : decode prog_7_method_15_code 24 = .ok (.ladd, 1) := by decide +kernel
theorem d157_25 : decode prog_7_method_15_code 25 = .ok (.lreturn, 1) := by decide +kernel
theorem m157 : pm_m 157 = some (⟨"TypeRules$Rules", "elementsOf", "(I)J"⟩, prog_7_method_15_code, 2, (some FieldType.long), 7, 1, 8) := rfl
theorem d161_0 : decode prog_7_method_14_code 0 = .ok (.iload_n 1, 1) := by decide +kernel
theorem d161_1 : decode prog_7_method_14_code 1 = .ok (.iconst 1, 1) := by decide +kernel
theorem d161_2 : decode prog_7_method_14_code 2 = .ok (.iadd, 1) := by decide +kernel
theorem d161_3 : decode prog_7_method_14_code 3 = .ok (.istore_n 2, 1) := by decide +kernel
theorem d161_4 : decode prog_7_method_14_code 4 = .ok (.iload_n 1, 1) := by decide +kernel
theorem d161_5 : decode prog_7_method_14_code 5 = .ok (.iconst 2, 1) := by decide +kernel
theorem d161_6 : decode prog_7_method_14_code 6 = .ok (.iadd, 1) := by decide +kernel
theorem d161_7 : decode prog_7_method_14_code 7 = .ok (.istore_n 3, 1) := by decide +kernel
theorem d161_8 : decode prog_7_method_14_code 8 = .ok (.aload_n 0, 1) := by decide +kernel
theorem d161_9 : decode prog_7_method_14_code 9 = .ok (.iconst 1, 1) := by decide +kernel
theorem d161_10 : decode prog_7_method_14_code 10 = .ok (.invokevirtual 166, 3) := by decide +kernel
theorem d161_13 : decode prog_7_method_14_code 13 = .ok (.ifCond .ne 29, 3) := by decide +kernel
theorem d161_16 : decode prog_7_method_14_code 16 = .ok (.aload_n 0, 1) := by decide +kernel
theorem d161_17 : decode prog_7_method_14_code 17 = .ok (.getfield 9, 3) := by decide +kernel
theorem d161_20 : decode prog_7_method_14_code 20 = .ok (.iload_n 2, 1) := by decide +kernel
theorem d161_21 : decode prog_7_method_14_code 21 = .ok (.invokevirtual 95, 3) := by decide +kernel
theorem d161_24 : decode prog_7_method_14_code 24 = .ok (.bipush 31, 2) := by decide +kernel
theorem d161_26 : decode prog_7_method_14_code 26 = .ok (.if_icmp .eq 16, 3) := by decide +kernel
theorem d161_29 : decode prog_7_method_14_code 29 = .ok (.aload_n 0, 1) := by decide +kernel
theorem d161_30 : decode prog_7_method_14_code 30 = .ok (.getfield 9, 3) := by decide +kernel
theorem d161_33 : decode prog_7_method_14_code 33 = .ok (.iload_n 3, 1) := by decide +kernel
theorem d161_34 : decode prog_7_method_14_code 34 = .ok (.invokevirtual 95, 3) := by decide +kernel
theorem d161_37 : decode prog_7_method_14_code 37 = .ok (.bipush 31, 2) := by decide +kernel
theorem d161_39 : decode prog_7_method_14_code 39 = .ok (.if_icmp .ne 6, 3) := by decide +kernel
theorem d161_42 : decode prog_7_method_14_code 42 = .ok (.bipush 16, 2) := by decide +kernel
theorem d161_44 : decode prog_7_method_14_code 44 = .ok (.ireturn, 1) := by decide +kernel
theorem d161_45 : decode prog_7_method_14_code 45 = .ok (.aload_n 0, 1) := by decide +kernel
theorem d161_46 : decode prog_7_method_14_code 46 = .ok (.iload_n 1, 1) := by decide +kernel
theorem d161_47 : decode prog_7_method_14_code 47 = .ok (.invokevirtual 202, 3) := by decide +kernel
theorem d161_50 : decode prog_7_method_14_code 50 = .ok (.lstore 4, 2) := by decide +kernel
theorem d161_52 : decode prog_7_method_14_code 52 = .ok (.lload 4, 2) := by decide +kernel
theorem d161_54 : decode prog_7_method_14_code 54 = .ok (.lconst 1, 1) := by decide +kernel
theorem d161_55 : decode prog_7_method_14_code 55 = .ok (.lcmp, 1) := by decide +kernel
theorem d161_56 : decode prog_7_method_14_code 56 = .ok (.ifCond .lt 12, 3) := by decide +kernel
theorem d161_59 : decode prog_7_method_14_code 59 = .ok (.lload 4, 2) := by decide +kernel
theorem d161_61 : decode prog_7_method_14_code 61 = .ok (.ldc2_w 206, 3) := by decide +kernel
theorem d161_64 : decode prog_7_method_14_code 64 = .ok (.lcmp, 1) := by decide +kernel
theorem d161_65 : decode prog_7_method_14_code 65 = .ok (.ifCond .le 8, 3) := by decide +kernel
theorem d161_68 : decode prog_7_method_14_code 68 = .ok (.bipush 16, 2) := by decide +kernel
theorem d161_70 : decode prog_7_method_14_code 70 = .ok (.goto 4, 3) := by decide +kernel
theorem d161_73 : decode prog_7_method_14_code 73 = .ok (.iconst 0, 1) := by decide +kernel
theorem d161_74 : decode prog_7_method_14_code 74 = .ok (.ireturn, 1) := by decide +kernel
theorem m161 : pm_m 161 = some (⟨"TypeRules$Rules", "arrayFault", "(I)I"⟩, prog_7_method_14_code, 6, (some FieldType.int), 7, 1, 8) := rfl
theorem d154_0 : decode prog_7_method_16_code 0 = .ok (.aload_n 0, 1) := by decide +kernel
theorem d154_1 : decode prog_7_method_16_code 1 = .ok (.getfield 19, 3) := by decide +kernel
theorem d154_4 : decode prog_7_method_16_code 4 = .ok (.aload_n 0, 1) := by decide +kernel
theorem d154_5 : decode prog_7_method_16_code 5 = .ok (.getfield 9, 3) := by decide +kernel
theorem d154_8 : decode prog_7_method_16_code 8 = .ok (.iload_n 1, 1) := by decide +kernel
theorem d154_9 : decode prog_7_method_16_code 9 = .ok (.invokevirtual 110, 3) := by decide +kernel
theorem d154_12 : decode prog_7_method_16_code 12 = .ok (.iconst 2, 1) := by decide +kernel
theorem d154_13 : decode prog_7_method_16_code 13 = .ok (.invokevirtual 208, 3) := by decide +kernel
theorem d154_16 : decode prog_7_method_16_code 16 = .ok (.ireturn, 1) := by decide +kernel
theorem m154 : pm_m 154 = some (⟨"TypeRules$Rules", "blockOf", "(I)I"⟩, prog_7_method_16_code, 2, (some FieldType.int), 7, 1, 8) := rfl
theorem d149_0 : decode prog_7_method_18_code 0 = .ok (.aload_n 0, 1) := by decide +kernel
theorem d149_1 : decode prog_7_method_18_code 1 = .ok (.getfield 9, 3) := by decide +kernel
theorem d149_4 : decode prog_7_method_18_code 4 = .ok (.iload_n 1, 1) := by decide +kernel
theorem d149_5 : decode prog_7_method_18_code 5 = .ok (.invokevirtual 110, 3) := by decide +kernel
theorem d149_8 : decode prog_7_method_18_code 8 = .ok (.bipush 8, 2) := by decide +kernel
theorem d149_10 : decode prog_7_method_18_code 10 = .ok (.ishr, 1) := by decide +kernel
theorem d149_11 : decode prog_7_method_18_code 11 = .ok (.iconst 3, 1) := by decide +kernel
theorem d149_12 : decode prog_7_method_18_code 12 = .ok (.if_icmp .ge 7, 3) := by decide +kernel
theorem d149_15 : decode prog_7_method_18_code 15 = .ok (.iconst 0, 1) := by decide +kernel
theorem d149_16 : decode prog_7_method_18_code 16 = .ok (.goto 4, 3) := by decide +kernel
theorem d149_19 : decode prog_7_method_18_code 19 = .ok (.iconst 1, 1) := by decide +kernel
theorem d149_20 : decode prog_7_method_18_code 20 = .ok (.istore_n 3, 1) := by decide +kernel
theorem d149_21 : decode prog_7_method_18_code 21 = .ok (.aload_n 0, 1) := by decide +kernel
theorem d149_22 : decode prog_7_method_18_code 22 = .ok (.getfield 9, 3) := by decide +kernel
theorem d149_25 : decode prog_7_method_18_code 25 = .ok (.iload_n 2, 1) := by decide +kernel
theorem d149_26 : decode prog_7_method_18_code 26 = .ok (.invokevirtual 95, 3) := by decide +kernel
theorem d149_29 : decode prog_7_method_18_code 29 = .ok (.bipush 8, 2) := by decide +kernel
theorem d149_31 : decode prog_7_method_18_code 31 = .ok (.if_icmp .ne 19, 3) := by decide +kernel
theorem d149_34 : decode prog_7_method_18_code 34 = .ok (.aload_n 0, 1) := by decide +kernel
theorem d149_35 : decode prog_7_method_18_code 35 = .ok (.getfield 9, 3) := by decide +kernel
theorem d149_38 : decode prog_7_method_18_code 38 = .ok (.iload_n 2, 1) := by decide +kernel
theorem d149_39 : decode prog_7_method_18_code 39 = .ok (.invokevirtual 110, 3) := by decide +kernel
theorem d149_42 : decode prog_7_method_18_code 42 = .ok (.iload_n 3, 1) := by decide +kernel
theorem d149_43 : decode prog_7_method_18_code 43 = .ok (.if_icmp .ne 7, 3) := by decide +kernel
theorem d149_46 : decode prog_7_method_18_code 46 = .ok (.iconst 1, 1) := by decide +kernel
theorem d149_47 : decode prog_7_method_18_code 47 = .ok (.goto 4, 3) := by decide +kernel
theorem d149_50 : decode prog_7_method_18_code 50 = .ok (.iconst 0, 1) := by decide +kernel
theorem d149_51 : decode prog_7_method_18_code 51 = .ok (.ireturn, 1) := by decide +kernel
theorem m149 : pm_m 149 = some (⟨"TypeRules$Rules", "isPlaceType", "(II)Z"⟩, prog_7_method_18_code, 4, (some FieldType.boolean), 7, 2, 8) := rfl
theorem d150_0 : decode prog_7_method_19_code 0 = .ok (.aload_n 0, 1) := by decide +kernel
theorem d150_1 : decode prog_7_method_19_code 1 = .ok (.getfield 9, 3) := by decide +kernel
theorem d150_4 : decode prog_7_method_19_code 4 = .ok (.iload_n 1, 1) := by decide +kernel
theorem d150_5 : decode prog_7_method_19_code 5 = .ok (.invokevirtual 110, 3) := by decide +kernel
theorem d150_8 : decode prog_7_method_19_code 8 = .ok (.bipush 8, 2) := by decide +kernel
theorem d150_10 : decode prog_7_method_19_code 10 = .ok (.ishr, 1) := by decide +kernel
theorem d150_11 : decode prog_7_method_19_code 11 = .ok (.istore_n 2, 1) := by decide +kernel
theorem d150_12 : decode prog_7_method_19_code 12 = .ok (.iload_n 1, 1) := by decide +kernel
theorem d150_13 : decode prog_7_method_19_code 13 = .ok (.iconst (-1), 1) := by decide +kernel
theorem d150_14 : decode prog_7_method_19_code 14 = .ok (.if_icmp .eq 16, 3) := by decide +kernel
theorem d150_17 : decode prog_7_method_19_code 17 = .ok (.iload_n 2, 1) := by decide +kernel
theorem d150_18 : decode prog_7_method_19_code 18 = .ok (.ifCond .eq 8, 3) := by decide +kernel
theorem d150_21 : decode prog_7_method_19_code 21 = .ok (.iload_n 2, 1) := by decide +kernel
theorem d150_22 : decode prog_7_method_19_code 22 = .ok (.iconst 3, 1) := by decide +kernel
theorem d150_23 : decode prog_7_method_19_code 23 = .ok (.if_icmp .ne 7, 3) := by decide +kernel
theorem d150_26 : decode prog_7_method_19_code 26 = .ok (.iconst 1, 1) := by decide +kernel
theorem d150_27 : decode prog_7_method_19_code 27 = .ok (.goto 4, 3) := by decide +kernel
theorem d150_30 : decode prog_7_method_19_code 30 = .ok (.iconst 0, 1) := by decide +kernel
theorem d150_31 : decode prog_7_method_19_code 31 = .ok (.ireturn, 1) := by decide +kernel
theorem m150 : pm_m 150 = some (⟨"TypeRules$Rules", "isInputPlace", "(I)Z"⟩, prog_7_method_19_code, 3, (some FieldType.boolean), 7, 1, 8) := rfl
theorem d152_0 : decode prog_7_method_21_code 0 = .ok (.aload_n 0, 1) := by decide +kernel
theorem d152_1 : decode prog_7_method_21_code 1 = .ok (.getfield 9, 3) := by decide +kernel
theorem d152_4 : decode prog_7_method_21_code 4 = .ok (.aload_n 0, 1) := by decide +kernel
theorem d152_5 : decode prog_7_method_21_code 5 = .ok (.getfield 9, 3) := by decide +kernel
theorem d152_8 : decode prog_7_method_21_code 8 = .ok (.iload_n 1, 1) := by decide +kernel
theorem d152_9 : decode prog_7_method_21_code 9 = .ok (.invokevirtual 95, 3) := by decide +kernel
theorem d152_12 : decode prog_7_method_21_code 12 = .ok (.bipush 9, 2) := by decide +kernel
theorem d152_14 : decode prog_7_method_21_code 14 = .ok (.if_icmp .ne 9, 3) := by decide +kernel
theorem d152_17 : decode prog_7_method_21_code 17 = .ok (.iload_n 1, 1) := by decide +kernel
theorem d152_18 : decode prog_7_method_21_code 18 = .ok (.iconst 3, 1) := by decide +kernel
theorem d152_19 : decode prog_7_method_21_code 19 = .ok (.iadd, 1) := by decide +kernel
theorem d152_20 : decode prog_7_method_21_code 20 = .ok (.goto 4, 3) := by decide +kernel
theorem d152_23 : decode prog_7_method_21_code 23 = .ok (.iload_n 1, 1) := by decide +kernel
theorem d152_24 : decode prog_7_method_21_code 24 = .ok (.invokevirtual 110, 3) := by decide +kernel
theorem d152_27 : decode prog_7_method_21_code 27 = .ok (.ireturn, 1) := by decide +kernel
theorem m152 : pm_m 152 = some (⟨"TypeRules$Rules", "simpleType", "(I)I"⟩, prog_7_method_21_code, 2, (some FieldType.int), 7, 1, 8) := rfl
theorem d151_0 : decode prog_7_method_20_code 0 = .ok (.aload_n 0, 1) := by decide +kernel
theorem d151_1 : decode prog_7_method_20_code 1 = .ok (.getfield 9, 3) := by decide +kernel
theorem d151_4 : decode prog_7_method_20_code 4 = .ok (.iload_n 2, 1) := by decide +kernel
theorem d151_5 : decode prog_7_method_20_code 5 = .ok (.invokevirtual 95, 3) := by decide +kernel
theorem d151_8 : decode prog_7_method_20_code 8 = .ok (.bipush 10, 2) := by decide +kernel
theorem d151_10 : decode prog_7_method_20_code 10 = .ok (.if_icmp .ne 5, 3) := by decide +kernel
theorem d151_13 : decode prog_7_method_20_code 13 = .ok (.iconst 0, 1) := by decide +kernel
theorem d151_14 : decode prog_7_method_20_code 14 = .ok (.ireturn, 1) := by decide +kernel
theorem d151_15 : decode prog_7_method_20_code 15 = .ok (.aload_n 0, 1) := by decide +kernel
theorem d151_16 : decode prog_7_method_20_code 16 = .ok (.iload_n 2, 1) := by decide +kernel
theorem d151_17 : decode prog_7_method_20_code 17 = .ok (.invokevirtual 225, 3) := by decide +kernel
theorem d151_20 : decode prog_7_method_20_code 20 = .ok (.istore_n 3, 1) := by decide +kernel
theorem d151_21 : decode prog_7_method_20_code 21 = .ok (.aload_n 0, 1) := by decide +kernel
theorem d151_22 : decode prog_7_method_20_code 22 = .ok (.getfield 9, 3) := by decide +kernel
theorem d151_25 : decode prog_7_method_20_code 25 = .ok (.iload_n 1, 1) := by decide +kernel
theorem d151_26 : decode prog_7_method_20_code 26 = .ok (.invokevirtual 95, 3) := by decide +kernel
theorem d151_29 : decode prog_7_method_20_code 29 = .ok (.bipush 31, 2) := by decide +kernel
theorem d151_31 : decode prog_7_method_20_code 31 = .ok (.if_icmp .ne 13, 3) := by decide +kernel
theorem d151_34 : decode prog_7_method_20_code 34 = .ok (.iload_n 3, 1) := by decide +kernel
theorem d151_35 : decode prog_7_method_20_code 35 = .ok (.ifCond .ne 7, 3) := by decide +kernel
theorem d151_38 : decode prog_7_method_20_code 38 = .ok (.iconst 1, 1) := by decide +kernel
theorem d151_39 : decode prog_7_method_20_code 39 = .ok (.goto 4, 3) := by decide +kernel
theorem d151_42 : decode prog_7_method_20_code 42 = .ok (.iconst 0, 1) := by decide +kernel
theorem d151_43 : decode prog_7_method_20_code 43 = .ok (.ireturn, 1) := by decide +kernel
theorem d151_44 : decode prog_7_method_20_code 44 = .ok (.iload_n 3, 1) := by decide +kernel
theorem d151_45 : decode prog_7_method_20_code 45 = .ok (.ifCond .eq 22, 3) := by decide +kernel
theorem d151_48 : decode prog_7_method_20_code 48 = .ok (.aload_n 0, 1) := by decide +kernel
theorem d151_49 : decode prog_7_method_20_code 49 = .ok (.getfield 9, 3) := by decide +kernel
theorem d151_52 : decode prog_7_method_20_code 52 = .ok (.iload_n 1, 1) := by decide +kernel
theorem d151_53 : decode prog_7_method_20_code 53 = .ok (.invokevirtual 110, 3) := by decide +kernel
theorem d151_56 : decode prog_7_method_20_code 56 = .ok (.iload_n 3, 1) := by decide +kernel
theorem d151_57 : decode prog_7_method_20_code 57 = .ok (.invokestatic 228, 3) := by decide +kernel
theorem d151_60 : decode prog_7_method_20_code 60 = .ok (.ifCond .eq 7, 3) := by decide +kernel
theorem d151_63 : decode prog_7_method_20_code 63 = .ok (.iconst 1, 1) := by decide +kernel
theorem d151_64 : decode prog_7_method_20_code 64 = .ok (.goto 4, 3) := by decide +kernel
theorem d151_67 : decode prog_7_method_20_code 67 = .ok (.iconst 0, 1) := by decide +kernel
theorem d151_68 : decode prog_7_method_20_code 68 = .ok (.ireturn, 1) := by decide +kernel
theorem m151 : pm_m 151 = some (⟨"TypeRules$Rules", "isConstantFor", "(II)Z"⟩, prog_7_method_20_code, 4, (some FieldType.boolean), 7, 2, 8) := rfl
theorem d156_0 : decode prog_7_method_23_code 0 = .ok (.aload_n 0, 1) := by decide +kernel
theorem d156_1 : decode prog_7_method_23_code 1 = .ok (.getfield 9, 3) := by decide +kernel
theorem d156_4 : decode prog_7_method_23_code 4 = .ok (.iload_n 1, 1) := by decide +kernel
theorem d156_5 : decode prog_7_method_23_code 5 = .ok (.invokevirtual 95, 3) := by decide +kernel
theorem d156_8 : decode prog_7_method_23_code 8 = .ok (.lookupswitch 48 #[(9, 28), (10, 35)], 28) := by decide +kernel
theorem d156_36 : decode prog_7_method_23_code 36 = .ok (.aload_n 0, 1) := by decide +kernel
theorem d156_37 : decode prog_7_method_23_code 37 = .ok (.iload_n 1, 1) := by decide +kernel
theorem d156_38 : decode prog_7_method_23_code 38 = .ok (.invokevirtual 202, 3) := by decide +kernel
theorem d156_41 : decode prog_7_method_23_code 41 = .ok (.l2i, 1) := by decide +kernel
theorem d156_42 : decode prog_7_method_23_code 42 = .ok (.ireturn, 1) := by decide +kernel
theorem d156_43 : decode prog_7_method_23_code 43 = .ok (.aload_n 0, 1) := by decide +kernel
theorem d156_44 : decode prog_7_method_23_code 44 = .ok (.getfield 19, 3) := by decide +kernel
theorem d156_47 : decode prog_7_method_23_code 47 = .ok (.aload_n 0, 1) := by decide +kernel
theorem d156_48 : decode prog_7_method_23_code 48 = .ok (.iload_n 1, 1) := by decide +kernel
theorem d156_49 : decode prog_7_method_23_code 49 = .ok (.invokevirtual 170, 3) := by decide +kernel
theorem d156_52 : decode prog_7_method_23_code 52 = .ok (.invokevirtual 222, 3) := by decide +kernel
theorem d156_55 : decode prog_7_method_23_code 55 = .ok (.ireturn, 1) := by decide +kernel
theorem d156_56 : decode prog_7_method_23_code 56 = .ok (.iconst 1, 1) := by decide +kernel
theorem d156_57 : decode prog_7_method_23_code 57 = .ok (.ireturn, 1) := by decide +kernel
theorem m156 : pm_m 156 = some (⟨"TypeRules$Rules", "sizeOf", "(I)I"⟩, prog_7_method_23_code, 2, (some FieldType.int), 7, 1, 8) := rfl
/-! DECLARATIONS of the class: places, arrays, types -/
theorem pl_8 {a o : Nat} (ha : a < 6) (ho : o < 256) : nI (256 * a + o) >>> ((8 : Int32) &&& 31) = nI a := by
  rw [pk_shrN (by omega) _ 8 (by decide)]
  congr 1
  omega
theorem pl_255 {a o : Nat} (ha : a < 6) (ho : o < 256) : nI (256 * a + o) &&& 255 = nI o := by
  rw [pk_andN (by omega) 8 (by decide)]
  congr 1
  omega
theorem pl_ar {a o : Nat} (ha : a < 6) (ho : o < 256) : rl_area (nI (256 * a + o)) = a := by
  unfold rl_area
  rw [nI_clamp (by omega)]
  omega
theorem pl_im {a o : Nat} (ha : a < 6) (ho : o < 256) : rl_img (nI (256 * a + o)) = o + (if a < 3 then 256 * a else 768 + 64 * (a - 3)) := by
  unfold rl_img
  rw [pl_ar ha ho, nI_clamp (by omega)]
  congr 1
  omega
theorem pl_l {a o : Nat} (ha : a < 6) (ho : o < 256) (h3 : 3 ≤ a → o < 64) : rl_img (nI (256 * a + o)) < 960 := by
  rw [pl_im ha ho]
  by_cases q : a < 3
  · rw [if_pos q]; omega
  · rw [if_neg q]; omega
theorem lg_7 {l : List pg_N} {NN p : Nat} (hG : lg_G l NN) (hi : p < l.length) (hk : rl_k l p = 7) : ∃ a o, a < 6 ∧ o < 256 ∧ (3 ≤ a → o < 64) ∧ rl_v l p = nI (256 * a + o) := (lg_V hG hi).2.2.2.2.2.2 hk
theorem cr155 {d : Nat} {l : List pg_N} {NN nx : Nat} {σ0 σ : pm_S} {A : rl_A} {Q : Option Value → pm_S → Prop} {p : Nat} (hG : lg_G l NN) (h : cr_I l NN σ0 σ nx A) (hi : p < l.length) (hk : rl_k l p = 7) (hQ : Q (some (.int (nI (rl_img (rl_v l p))))) σ) : pm_call pm_Y0 (d + 2) 155 [.ref 7, .int (nI p)] σ Q := by
  obtain ⟨a, o, ha, ho, h3, hv⟩ := lg_7 hG hi hk
  have ea := nI_toInt (n := a) (by omega)
  have ec := nI_clamp (n := a) (by omega)
  have hl := pl_l ha ho h3
  rw [hv] at hQ
  have ei := nI_toInt (n := rl_img (nI (256 * a + o))) (by omega)
  have hf : ([0, 256, 512, 768, 832, 896] : List Int32).getD a 0 + nI o = nI (rl_img (nI (256 * a + o))) := by
    rw [pl_im ha ho]
    have h6 : a = 0 ∨ a = 1 ∨ a = 2 ∨ a = 3 ∨ a = 4 ∨ a = 5 := by omega
    rcases h6 with q | q | q | q | q | q <;> (subst q; rw [Nat.add_comm o]; exact nI_add _ _)
  refine wq_m m155 (Nat.le_of_ble_eq_true rfl) (by decide) rfl ?_
  refine wq_l 1 d155_0 rfl rfl rfl rfl ?_
  refine wq_gr (ci := 7) (j := 0) (q := 3) 4 d155_1 rfl rfl rfl rfl ?_
  refine wq_l 5 d155_4 rfl rfl rfl rfl ?_
  refine wq_v 8 [_] d155_5 rfl rfl m66 rfl rfl (Nat.le_of_ble_eq_true rfl) rfl (ck66 (cr_S h) (by omega) ?_)
  rw [hv]
  refine wq_k 10 8 d155_8 (by decide) rfl ?_
  refine wq_a 11 d155_10 rfl rfl ?_
  rw [pl_8 ha ho]
  refine wq_s 12 d155_11 rfl rfl (Nat.le_of_ble_eq_true rfl) rfl rfl ?_
  refine wq_l 13 d155_12 rfl rfl rfl rfl ?_
  refine wq_b 24 16 d155_13 rfl (by decide) rfl (fun c13 => absurd c13 (by rw [i_lt, ea]; show ¬ (a : Int) < 0; omega)) (fun c13 => ?_)
  refine wq_l 17 d155_16 rfl rfl rfl rfl ?_
  refine wq_st 20 d155_17 rfl rfl ?_
  refine wq_sn 21 d155_20 rfl rfl rfl ?_
  refine wq_b 26 24 d155_21 rfl (by decide) rfl (fun c21 => ?_) (fun c21 => absurd (by rw [i_lt, ea]; show (a : Int) < 6; omega) c21)
  refine wq_st 29 d155_26 rfl rfl ?_
  refine wq_l 30 d155_29 rfl rfl rfl rfl ?_
  refine wq_sl 31 d155_30 rfl rfl (vp_in_iff.mpr (by rw [ea]; show _ ∧ _ < (6 : Int); omega)) rfl ?_
  rw [ec]
  refine wq_l 32 d155_31 rfl rfl rfl rfl ?_
  refine wq_gr (ci := 7) (j := 0) (q := 3) 35 d155_32 rfl rfl rfl rfl ?_
  refine wq_l 36 d155_35 rfl rfl rfl rfl ?_
  refine wq_v 39 [_] d155_36 rfl rfl m66 rfl rfl (Nat.le_of_ble_eq_true rfl) rfl (ck66 (cr_S h) (by omega) ?_)
  rw [hv]
  refine wq_k 42 255 d155_39 (by decide) rfl ?_
  refine wq_a 43 d155_42 rfl rfl ?_
  rw [pl_255 ha ho]
  refine wq_a 44 d155_43 rfl rfl ?_
  rw [hf]
  refine wq_s 45 d155_44 rfl rfl (Nat.le_of_ble_eq_true rfl) rfl rfl ?_
  refine wq_l 46 d155_45 rfl rfl rfl rfl ?_
  refine wq_l 47 d155_46 rfl rfl rfl rfl ?_
  refine wq_gr (ci := 7) (j := 6) (q := 42) 50 d155_47 rfl rfl rfl rfl ?_
  refine wq_len 51 d155_50 rfl rfl rfl ?_
  refine wq_b 58 54 d155_51 rfl (by decide) rfl (fun c51 => absurd c51 (by rw [i_le, ei]; show ¬ (960 : Int) ≤ _; omega)) (fun c51 => ?_)
  refine wq_l 55 d155_54 rfl rfl rfl rfl ?_
  refine wq_g 59 d155_55 (by decide) ?_
  refine wq_ri d155_59 (rfl) ?_
  exact hQ
theorem cr146 {d : Nat} {l : List pg_N} {NN nx : Nat} {σ0 σ : pm_S} {A : rl_A} {Q : Option Value → pm_S → Prop} {i : Nat} (h : cr_I l NN σ0 σ nx A) (hp : pv_B A.1) (hB : A.1 ≠ []) (hi : i < l.length) (hQ : ∀ σ' A', cr_I l NN σ0 σ' nx A' → ((((if ((rl_cur A).1 = 3 ∧ rl_v l i ≠ 0) ∨ ((rl_cur A).1 = 1 ∧ rl_v l i = 2) then 13 else 0, A) : Nat × rl_A)).1 = 0 → A' = (((if ((rl_cur A).1 = 3 ∧ rl_v l i ≠ 0) ∨ ((rl_cur A).1 = 1 ∧ rl_v l i = 2) then 13 else 0, A) : Nat × rl_A)).2) → Q (some (.int (nI (((if ((rl_cur A).1 = 3 ∧ rl_v l i ≠ 0) ∨ ((rl_cur A).1 = 1 ∧ rl_v l i = 2) then 13 else 0, A) : Nat × rl_A)).1))) σ') : pm_call pm_Y0 (d + 3) 146 [.ref 7, .int (nI i)] σ Q := by
  dsimp only at hQ
  have h13 : (((rl_cur A).1 = 3 ∧ rl_v l i ≠ 0) ∨ ((rl_cur A).1 = 1 ∧ rl_v l i = 2)) → Q (some (.int 13)) σ := fun z => by
    rw [if_pos z] at hQ; exact hQ _ _ h (fun z => absurd (show (13 : Nat) = 0 from z) (by decide))
  have h0 : ¬ (((rl_cur A).1 = 3 ∧ rl_v l i ≠ 0) ∨ ((rl_cur A).1 = 1 ∧ rl_v l i = 2)) → Q (some (.int 0)) σ := fun z => by
    rw [if_neg z] at hQ; exact hQ _ _ h (fun _ => rfl)
  clear hQ
  refine wq_m m146 (Nat.le_of_ble_eq_true rfl) (by decide) rfl ?_
  refine wq_l 1 d146_0 rfl rfl rfl rfl ?_
  refine wq_gr (ci := 7) (j := 0) (q := 3) 4 d146_1 rfl rfl rfl rfl ?_
  refine wq_l 5 d146_4 rfl rfl rfl rfl ?_
  refine wq_v 8 [_] d146_5 rfl rfl m66 rfl rfl (Nat.le_of_ble_eq_true rfl) rfl (ck66 (cr_S h) (by omega) ?_)
  refine wq_s 9 d146_8 rfl rfl (Nat.le_of_ble_eq_true rfl) rfl rfl ?_
  refine wq_l 10 d146_9 rfl rfl rfl rfl ?_
  refine wq_k 11 3 d146_10 (by decide) rfl ?_
  refine wq_v 14 [_] d146_11 rfl rfl m147 rfl rfl (Nat.le_of_ble_eq_true rfl) rfl (cr147 (k := 3) (by decide) hp h hB ?_)
  refine wq_b 21 17 d146_14 rfl (by decide) rfl (fun c14 => ?_) (fun c14 => ?_)
  · -- pc 21
    have f14 := b2z c14
    refine wq_l 22 d146_21 rfl rfl rfl rfl ?_
    refine wq_k 23 1 d146_22 (by decide) rfl ?_
    refine wq_v 26 [_] d146_23 rfl rfl m147 rfl rfl (Nat.le_of_ble_eq_true rfl) rfl (cr147 (k := 1) (by decide) hp h hB ?_)
    refine wq_b 37 29 d146_26 rfl (by decide) rfl (fun c26 => ?_) (fun c26 => ?_)
    · -- pc 37
      have f26 := b2z c26
      refine wq_k 38 0 d146_37 (by decide) rfl ?_
      refine wq_ri d146_38 (rfl) ?_
      exact h0 (fun z => z.elim (fun w => of_decide_eq_false f14 w.1) (fun w => of_decide_eq_false f26 w.1))
    · -- pc 29
      have f26 := b2n c26
      refine wq_l 30 d146_29 rfl rfl rfl rfl ?_
      refine wq_k 31 2 d146_30 (by decide) rfl ?_
      refine wq_b 37 34 d146_31 rfl (by decide) rfl (fun c31 => ?_) (fun c31 => ?_)
      · -- pc 37
        refine wq_k 38 0 d146_37 (by decide) rfl ?_
        refine wq_ri d146_38 (rfl) ?_
        exact h0 (fun z => z.elim (fun w => of_decide_eq_false f14 w.1) (fun w => c31 w.2))
      · -- pc 34
        refine wq_k 36 13 d146_34 (by decide) rfl ?_
        refine wq_ri d146_36 (rfl) ?_
        exact h13 (Or.inr ⟨of_decide_eq_true f26, Classical.not_not.mp c31⟩)
  · -- pc 17
    have f14 := b2n c14
    refine wq_l 18 d146_17 rfl rfl rfl rfl ?_
    refine wq_b 34 21 d146_18 rfl (by decide) rfl (fun c18 => ?_) (fun c18 => ?_)
    · -- pc 34
      refine wq_k 36 13 d146_34 (by decide) rfl ?_
      refine wq_ri d146_36 (rfl) ?_
      exact h13 (Or.inl ⟨of_decide_eq_true f14, c18⟩)
    · -- pc 21
      refine wq_l 22 d146_21 rfl rfl rfl rfl ?_
      refine wq_k 23 1 d146_22 (by decide) rfl ?_
      refine wq_v 26 [_] d146_23 rfl rfl m147 rfl rfl (Nat.le_of_ble_eq_true rfl) rfl (cr147 (k := 1) (by decide) hp h hB ?_)
      refine wq_b 37 29 d146_26 rfl (by decide) rfl (fun c26 => ?_) (fun c26 => ?_)
      · -- pc 37
        have f26 := b2z c26
        refine wq_k 38 0 d146_37 (by decide) rfl ?_
        refine wq_ri d146_38 (rfl) ?_
        exact h0 (fun z => z.elim (fun w => c18 w.2) (fun w => of_decide_eq_false f26 w.1))
      · -- pc 29
        have f26 := b2n c26
        refine wq_l 30 d146_29 rfl rfl rfl rfl ?_
        refine wq_k 31 2 d146_30 (by decide) rfl ?_
        refine wq_b 37 34 d146_31 rfl (by decide) rfl (fun c31 => ?_) (fun c31 => ?_)
        · -- pc 37
          refine wq_k 38 0 d146_37 (by decide) rfl ?_
          refine wq_ri d146_38 (rfl) ?_
          exact h0 (fun z => z.elim (fun w => c18 w.2) (fun w => c31 w.2))
        · -- pc 34
          refine wq_k 36 13 d146_34 (by decide) rfl ?_
          refine wq_ri d146_36 (rfl) ?_
          exact h13 (Or.inr ⟨of_decide_eq_true f26, Classical.not_not.mp c31⟩)
theorem cr157 {d : Nat} {l : List pg_N} {NN nx : Nat} {σ0 σ : pm_S} {A : rl_A} {Q : Option Value → pm_S → Prop} {i : Nat} (h : cr_I l NN σ0 σ nx A) (hi : i + 2 < l.length) (hQ : ∀ r : Int64, r.toInt = rl_many l i → Q (some (.long r)) σ) : pm_call pm_Y0 (d + 2) 157 [.ref 7, .int (nI i)] σ Q := by
  have s2 : nI i + 2 = nI (i + 2) := nI_add i 2
  have e1 := lg_32 (rl_v l (i + 2))
  have e2 := lg_32 (rl_v l (i + 1))
  refine wq_m m157 (Nat.le_of_ble_eq_true rfl) (by decide) rfl ?_
  refine wq_l 1 d157_0 rfl rfl rfl rfl ?_
  refine wq_gr (ci := 7) (j := 0) (q := 3) 4 d157_1 rfl rfl rfl rfl ?_
  refine wq_l 5 d157_4 rfl rfl rfl rfl ?_
  refine wq_k 6 2 d157_5 (by decide) rfl ?_
  refine wq_a 7 d157_6 rfl rfl ?_
  rw [s2]
  refine wq_v 10 [_] d157_7 rfl rfl m66 rfl rfl (Nat.le_of_ble_eq_true rfl) rfl (ck66 (cr_S h) (by omega) ?_)
  refine wq_a 11 d157_10 rfl rfl ?_
  refine wq_l 12 d157_11 rfl rfl rfl rfl ?_
  refine wq_gr (ci := 7) (j := 0) (q := 3) 15 d157_12 rfl rfl rfl rfl ?_
  refine wq_l 16 d157_15 rfl rfl rfl rfl ?_
  refine wq_k 17 1 d157_16 (by decide) rfl ?_
  refine wq_a 18 d157_17 rfl rfl ?_
  rw [nI_1]
  refine wq_v 21 [_] d157_18 rfl rfl m66 rfl rfl (Nat.le_of_ble_eq_true rfl) rfl (ck66 (cr_S h) (by omega) ?_)
  refine wq_a 22 d157_21 rfl rfl ?_
  refine wq_a 23 d157_22 rfl rfl ?_
  refine wq_a 24 d157_23 rfl rfl ?_
  refine wq_a 25 d157_24 rfl rfl ?_
  refine wq_rl d157_25 ?_
  refine hQ _ ?_
  unfold rl_many
  rw [← e1.2, ← e2.2]
  have q1 := e1.1
  have q2 := e2.1
  have e3 : ((rl_v l (i + 2)).toInt64 - (rl_v l (i + 1)).toInt64).toInt = (rl_v l (i + 2)).toInt64.toInt - (rl_v l (i + 1)).toInt64.toInt := by
    rw [Int64.toInt_sub, Int.bmod_eq_of_le] <;> (unfold lg_31 at *; omega)
  rw [Int64.toInt_add, e3, show (Int64.ofNat ((1 : Fin 2) : Nat)).toInt = 1 by decide, Int.bmod_eq_of_le] <;> (unfold lg_31 at *; omega)
theorem cr161 {d : Nat} {l : List pg_N} {NN nx : Nat} {σ0 σ : pm_S} {A : rl_A} {Q : Option Value → pm_S → Prop} {i : Nat} (hG : lg_G l NN) (h : cr_I l NN σ0 σ nx A) (hp : pv_B A.1) (hB : A.1 ≠ []) (hi : i + 2 < l.length) (hQ : ∀ σ' A', cr_I l NN σ0 σ' nx A' → ((((if (rl_cur A).1 = 1 ∨ rl_k l (i + 1) = 31 ∨ rl_k l (i + 2) = 31 ∨ rl_many l i < 1 ∨ 256 < rl_many l i then 16 else 0, A) : Nat × rl_A)).1 = 0 → A' = (((if (rl_cur A).1 = 1 ∨ rl_k l (i + 1) = 31 ∨ rl_k l (i + 2) = 31 ∨ rl_many l i < 1 ∨ 256 < rl_many l i then 16 else 0, A) : Nat × rl_A)).2) → Q (some (.int (nI (((if (rl_cur A).1 = 1 ∨ rl_k l (i + 1) = 31 ∨ rl_k l (i + 2) = 31 ∨ rl_many l i < 1 ∨ 256 < rl_many l i then 16 else 0, A) : Nat × rl_A)).1))) σ') : pm_call pm_Y0 (d + 3) 161 [.ref 7, .int (nI i)] σ Q := by
  dsimp only at hQ
  have s2 : nI i + 2 = nI (i + 2) := nI_add i 2
  have k1 := (lg_V hG (show i + 1 < l.length by omega)).1
  have k2 := (lg_V hG hi).1
  have o1 : (Int64.ofNat ((1 : Fin 2) : Nat)).toInt = 1 := by decide
  have o2 : (256 : Int64).toInt = 256 := by decide
  have h16 : ((rl_cur A).1 = 1 ∨ rl_k l (i + 1) = 31 ∨ rl_k l (i + 2) = 31 ∨ rl_many l i < 1 ∨ 256 < rl_many l i) → Q (some (.int 16)) σ := fun z => by
    rw [if_pos z] at hQ; exact hQ _ _ h (fun z => absurd (show (16 : Nat) = 0 from z) (by decide))
  have h0 : ¬ ((rl_cur A).1 = 1 ∨ rl_k l (i + 1) = 31 ∨ rl_k l (i + 2) = 31 ∨ rl_many l i < 1 ∨ 256 < rl_many l i) → Q (some (.int 0)) σ := fun z => by
    rw [if_neg z] at hQ; exact hQ _ _ h (fun _ => rfl)
  clear hQ
  refine wq_m m161 (Nat.le_of_ble_eq_true rfl) (by decide) rfl ?_
  refine wq_l 1 d161_0 rfl rfl rfl rfl ?_
  refine wq_k 2 1 d161_1 (by decide) rfl ?_
  refine wq_a 3 d161_2 rfl rfl ?_
  rw [nI_1]
  refine wq_s 4 d161_3 rfl rfl (Nat.le_of_ble_eq_true rfl) rfl rfl ?_
  refine wq_l 5 d161_4 rfl rfl rfl rfl ?_
  refine wq_k 6 2 d161_5 (by decide) rfl ?_
  refine wq_a 7 d161_6 rfl rfl ?_
  rw [s2]
  refine wq_s 8 d161_7 rfl rfl (Nat.le_of_ble_eq_true rfl) rfl rfl ?_
  refine wq_l 9 d161_8 rfl rfl rfl rfl ?_
  refine wq_k 10 1 d161_9 (by decide) rfl ?_
  refine wq_v 13 [_] d161_10 rfl rfl m147 rfl rfl (Nat.le_of_ble_eq_true rfl) rfl (cr147 (k := 1) (by decide) hp h hB ?_)
  refine wq_b 42 16 d161_13 rfl (by decide) rfl (fun c13 => ?_) (fun c13 => ?_)
  · -- pc 42
    have f13 := b2n c13
    refine wq_k 44 16 d161_42 (by decide) rfl ?_
    refine wq_ri d161_44 (rfl) ?_
    exact h16 (Or.inl (of_decide_eq_true f13))
  · -- pc 16
    have f13 := b2y c13
    refine wq_l 17 d161_16 rfl rfl rfl rfl ?_
    refine wq_gr (ci := 7) (j := 0) (q := 3) 20 d161_17 rfl rfl rfl rfl ?_
    refine wq_l 21 d161_20 rfl rfl rfl rfl ?_
    refine wq_v 24 [_] d161_21 rfl rfl m65 rfl rfl (Nat.le_of_ble_eq_true rfl) rfl (ck65 (cr_S h) (by omega) ?_)
    refine wq_k 26 31 d161_24 (by decide) rfl ?_
    refine wq_b 42 29 d161_26 rfl (by decide) rfl (fun c26 => ?_) (fun c26 => ?_)
    · -- pc 42
      refine wq_k 44 16 d161_42 (by decide) rfl ?_
      refine wq_ri d161_44 (rfl) ?_
      exact h16 (Or.inr (Or.inl (hp_inj (by omega) (by decide) c26)))
    · -- pc 29
      refine wq_l 30 d161_29 rfl rfl rfl rfl ?_
      refine wq_gr (ci := 7) (j := 0) (q := 3) 33 d161_30 rfl rfl rfl rfl ?_
      refine wq_l 34 d161_33 rfl rfl rfl rfl ?_
      refine wq_v 37 [_] d161_34 rfl rfl m65 rfl rfl (Nat.le_of_ble_eq_true rfl) rfl (ck65 (cr_S h) (by omega) ?_)
      refine wq_k 39 31 d161_37 (by decide) rfl ?_
      refine wq_b 45 42 d161_39 rfl (by decide) rfl (fun c39 => ?_) (fun c39 => ?_)
      · -- pc 45
        refine wq_l 46 d161_45 rfl rfl rfl rfl ?_
        refine wq_l 47 d161_46 rfl rfl rfl rfl ?_
        refine wq_v 50 [_] d161_47 rfl rfl m157 rfl rfl (Nat.le_of_ble_eq_true rfl) rfl (cr157 h hi (fun r er => ?_))
        refine wq_s 52 d161_50 rfl rfl (Nat.le_of_ble_eq_true rfl) rfl rfl ?_
        refine wq_l 54 d161_52 rfl rfl rfl rfl ?_
        refine wq_a 55 d161_54 rfl rfl ?_
        refine wq_a 56 d161_55 rfl rfl ?_
        refine wq_b 68 59 d161_56 rfl (by decide) rfl (fun c56 => ?_) (fun c56 => ?_)
        · -- pc 68
          refine wq_k 70 16 d161_68 (by decide) rfl ?_
          refine wq_g 74 d161_70 (by decide) ?_
          refine wq_ri d161_74 (rfl) ?_
          rw [lc_lt, er, o1] at c56
          exact h16 (Or.inr (Or.inr (Or.inr (Or.inl c56))))
        · -- pc 59
          refine wq_l 61 d161_59 rfl rfl rfl rfl ?_
          refine wq_cl 64 d161_61 rfl rfl ?_
          refine wq_a 65 d161_64 rfl rfl ?_
          refine wq_b 73 68 d161_65 rfl (by decide) rfl (fun c65 => ?_) (fun c65 => ?_)
          · -- pc 73
            refine wq_k 74 0 d161_73 (by decide) rfl ?_
            refine wq_ri d161_74 (rfl) ?_
            rw [lc_le, er, o2] at c65
            rw [lc_lt, er, o1] at c56
            exact h0 (fun z => by rcases z with w | w | w | w | w; exact of_decide_eq_false f13 w; exact c26 (congrArg nI w); exact c39 (congrArg nI w); omega; omega)
          · -- pc 68
            refine wq_k 70 16 d161_68 (by decide) rfl ?_
            refine wq_g 74 d161_70 (by decide) ?_
            refine wq_ri d161_74 (rfl) ?_
            rw [lc_le, er, o2] at c65
            exact h16 (Or.inr (Or.inr (Or.inr (Or.inr (by omega)))))
      · -- pc 42
        refine wq_k 44 16 d161_42 (by decide) rfl ?_
        refine wq_ri d161_44 (rfl) ?_
        exact h16 (Or.inr (Or.inr (Or.inl (hp_inj (by omega) (by decide) (Classical.not_not.mp c39)))))
theorem rl_nbi {B : List rl_B} {x : Int32} : cb_nb B x 2 = rl_inst B x := by
  rw [cb_nbk 2]
  unfold rl_inst
  cases rl_sb x with
  | some s => rfl
  | none => cases rl_own B.tail x <;> rfl
theorem cr154 {d : Nat} {l : List pg_N} {NN nx : Nat} {σ0 σ : pm_S} {A : rl_A} {Q : Option Value → pm_S → Prop} {i : Nat} (h : cr_I l NN σ0 σ nx A) (hf : cb_nm A.1.tail (rl_hd A.1).2.1 = none) (hkd : ∀ q, cb_kd A.1 q < 2 ^ 30) (hB : A.1 ≠ []) (hi : i < l.length) (hx : 0 ≤ (rl_v l i).toInt ∧ (rl_v l i).toInt < NN) (hQ : Q (some (.int (hp_oi (rl_inst A.1 (rl_v l i))))) σ) : pm_call pm_Y0 (d + 2) 154 [.ref 7, .int (nI i)] σ Q := by
  refine wq_m m154 (Nat.le_of_ble_eq_true rfl) (by decide) rfl ?_
  refine wq_l 1 d154_0 rfl rfl rfl rfl ?_
  refine wq_gr (ci := 7) (j := 2) (q := 5) 4 d154_1 rfl rfl rfl rfl ?_
  refine wq_l 5 d154_4 rfl rfl rfl rfl ?_
  refine wq_gr (ci := 7) (j := 0) (q := 3) 8 d154_5 rfl rfl rfl rfl ?_
  refine wq_l 9 d154_8 rfl rfl rfl rfl ?_
  refine wq_v 12 [_] d154_9 rfl rfl m66 rfl rfl (Nat.le_of_ble_eq_true rfl) rfl (ck66 (cr_S h) (by omega) ?_)
  refine wq_k 13 2 d154_12 (by decide) rfl ?_
  refine wq_v 16 [_, _] d154_13 rfl rfl m122 rfl rfl (Nat.le_of_ble_eq_true rfl) rfl (cb122 (k := 2) h.1 (by decide) hkd h.2.2.2.2.1 hB hf hx ?_)
  rw [rl_nbi]
  refine wq_ri d154_16 (rfl) ?_
  exact hQ
theorem cr149 {d : Nat} {l : List pg_N} {NN nx : Nat} {σ0 σ : pm_S} {A : rl_A} {Q : Option Value → pm_S → Prop} {p y : Nat} (hG : lg_G l NN) (h : cr_I l NN σ0 σ nx A) (hi : p < l.length) (hk : rl_k l p = 7) (hy : y < l.length) (hQ : Q (some (.int (b2 (decide (rl_k l y = 8 ∧ rl_v l y = (if rl_area (rl_v l p) < 3 then 0 else 1)))))) σ) : pm_call pm_Y0 (d + 2) 149 [.ref 7, .int (nI p), .int (nI y)] σ Q := by
  obtain ⟨a, o, ha, ho, h3, hv⟩ := lg_7 hG hi hk
  have ea := nI_toInt (n := a) (by omega)
  have ky := (lg_V hG hy).1
  rw [hv, pl_ar ha ho] at hQ
  refine wq_m m149 (Nat.le_of_ble_eq_true rfl) (by decide) rfl ?_
  refine wq_l 1 d149_0 rfl rfl rfl rfl ?_
  refine wq_gr (ci := 7) (j := 0) (q := 3) 4 d149_1 rfl rfl rfl rfl ?_
  refine wq_l 5 d149_4 rfl rfl rfl rfl ?_
  refine wq_v 8 [_] d149_5 rfl rfl m66 rfl rfl (Nat.le_of_ble_eq_true rfl) rfl (ck66 (cr_S h) (by omega) ?_)
  rw [hv]
  refine wq_k 10 8 d149_8 (by decide) rfl ?_
  refine wq_a 11 d149_10 rfl rfl ?_
  rw [pl_8 ha ho]
  refine wq_k 12 3 d149_11 (by decide) rfl ?_
  refine wq_b 19 15 d149_12 rfl (by decide) rfl (fun c12 => ?_) (fun c12 => ?_)
  · -- pc 19
    have c12 : ¬ a < 3 := by rw [i_le, ea] at c12; have c12 : (3 : Int) ≤ a := c12; omega
    refine wq_k 20 1 d149_19 (by decide) rfl ?_
    refine wq_s 21 d149_20 rfl rfl (Nat.le_of_ble_eq_true rfl) rfl rfl ?_
    refine wq_l 22 d149_21 rfl rfl rfl rfl ?_
    refine wq_gr (ci := 7) (j := 0) (q := 3) 25 d149_22 rfl rfl rfl rfl ?_
    refine wq_l 26 d149_25 rfl rfl rfl rfl ?_
    refine wq_v 29 [_] d149_26 rfl rfl m65 rfl rfl (Nat.le_of_ble_eq_true rfl) rfl (ck65 (cr_S h) (by omega) ?_)
    refine wq_k 31 8 d149_29 (by decide) rfl ?_
    refine wq_b 50 34 d149_31 rfl (by decide) rfl (fun c31 => ?_) (fun c31 => ?_)
    · -- pc 50
      refine wq_k 51 0 d149_50 (by decide) rfl ?_
      refine wq_ri d149_51 (rfl) ?_
      rw [if_neg c12] at hQ
      rw [decide_eq_false (fun z => c31 (congrArg nI z.1))] at hQ
      exact hQ
    · -- pc 34
      refine wq_l 35 d149_34 rfl rfl rfl rfl ?_
      refine wq_gr (ci := 7) (j := 0) (q := 3) 38 d149_35 rfl rfl rfl rfl ?_
      refine wq_l 39 d149_38 rfl rfl rfl rfl ?_
      refine wq_v 42 [_] d149_39 rfl rfl m66 rfl rfl (Nat.le_of_ble_eq_true rfl) rfl (ck66 (cr_S h) (by omega) ?_)
      refine wq_l 43 d149_42 rfl rfl rfl rfl ?_
      refine wq_b 50 46 d149_43 rfl (by decide) rfl (fun c43 => ?_) (fun c43 => ?_)
      · -- pc 50
        refine wq_k 51 0 d149_50 (by decide) rfl ?_
        refine wq_ri d149_51 (rfl) ?_
        rw [if_neg c12] at hQ
        rw [decide_eq_false (fun z => c43 z.2)] at hQ
        exact hQ
      · -- pc 46
        refine wq_k 47 1 d149_46 (by decide) rfl ?_
        refine wq_g 51 d149_47 (by decide) ?_
        refine wq_ri d149_51 (rfl) ?_
        rw [if_neg c12] at hQ
        rw [decide_eq_true (show _ ∧ _ from ⟨hp_inj (by omega) (by decide) (Classical.not_not.mp c31), Classical.not_not.mp c43⟩)] at hQ
        exact hQ
  · -- pc 15
    have c12 : a < 3 := by rw [i_le, ea] at c12; have c12 : ¬ (3 : Int) ≤ a := c12; omega
    refine wq_k 16 0 d149_15 (by decide) rfl ?_
    refine wq_g 20 d149_16 (by decide) ?_
    refine wq_s 21 d149_20 rfl rfl (Nat.le_of_ble_eq_true rfl) rfl rfl ?_
    refine wq_l 22 d149_21 rfl rfl rfl rfl ?_
    refine wq_gr (ci := 7) (j := 0) (q := 3) 25 d149_22 rfl rfl rfl rfl ?_
    refine wq_l 26 d149_25 rfl rfl rfl rfl ?_
    refine wq_v 29 [_] d149_26 rfl rfl m65 rfl rfl (Nat.le_of_ble_eq_true rfl) rfl (ck65 (cr_S h) (by omega) ?_)
    refine wq_k 31 8 d149_29 (by decide) rfl ?_
    refine wq_b 50 34 d149_31 rfl (by decide) rfl (fun c31 => ?_) (fun c31 => ?_)
    · -- pc 50
      refine wq_k 51 0 d149_50 (by decide) rfl ?_
      refine wq_ri d149_51 (rfl) ?_
      rw [if_pos c12] at hQ
      rw [decide_eq_false (fun z => c31 (congrArg nI z.1))] at hQ
      exact hQ
    · -- pc 34
      refine wq_l 35 d149_34 rfl rfl rfl rfl ?_
      refine wq_gr (ci := 7) (j := 0) (q := 3) 38 d149_35 rfl rfl rfl rfl ?_
      refine wq_l 39 d149_38 rfl rfl rfl rfl ?_
      refine wq_v 42 [_] d149_39 rfl rfl m66 rfl rfl (Nat.le_of_ble_eq_true rfl) rfl (ck66 (cr_S h) (by omega) ?_)
      refine wq_l 43 d149_42 rfl rfl rfl rfl ?_
      refine wq_b 50 46 d149_43 rfl (by decide) rfl (fun c43 => ?_) (fun c43 => ?_)
      · -- pc 50
        refine wq_k 51 0 d149_50 (by decide) rfl ?_
        refine wq_ri d149_51 (rfl) ?_
        rw [if_pos c12] at hQ
        rw [decide_eq_false (fun z => c43 z.2)] at hQ
        exact hQ
      · -- pc 46
        refine wq_k 47 1 d149_46 (by decide) rfl ?_
        refine wq_g 51 d149_47 (by decide) ?_
        refine wq_ri d149_51 (rfl) ?_
        rw [if_pos c12] at hQ
        rw [decide_eq_true (show _ ∧ _ from ⟨hp_inj (by omega) (by decide) (Classical.not_not.mp c31), Classical.not_not.mp c43⟩)] at hQ
        exact hQ
theorem cr150 {d : Nat} {l : List pg_N} {NN nx : Nat} {σ0 σ : pm_S} {A : rl_A} {Q : Option Value → pm_S → Prop} {p : Nat} (hG : lg_G l NN) (h : cr_I l NN σ0 σ nx A) (hi : p < l.length) (hk : rl_k l p = 7) (hQ : Q (some (.int (b2 (decide (rl_area (rl_v l p) % 3 = 0))))) σ) : pm_call pm_Y0 (d + 2) 150 [.ref 7, .int (nI p)] σ Q := by
  obtain ⟨a, o, ha, ho, h3, hv⟩ := lg_7 hG hi hk
  have ea := nI_toInt (n := a) (by omega)
  have hl := h.2.1.1
  rw [hv, pl_ar ha ho] at hQ
  refine wq_m m150 (Nat.le_of_ble_eq_true rfl) (by decide) rfl ?_
  refine wq_l 1 d150_0 rfl rfl rfl rfl ?_
  refine wq_gr (ci := 7) (j := 0) (q := 3) 4 d150_1 rfl rfl rfl rfl ?_
  refine wq_l 5 d150_4 rfl rfl rfl rfl ?_
  refine wq_v 8 [_] d150_5 rfl rfl m66 rfl rfl (Nat.le_of_ble_eq_true rfl) rfl (ck66 (cr_S h) (by omega) ?_)
  rw [hv]
  refine wq_k 10 8 d150_8 (by decide) rfl ?_
  refine wq_a 11 d150_10 rfl rfl ?_
  rw [pl_8 ha ho]
  refine wq_s 12 d150_11 rfl rfl (Nat.le_of_ble_eq_true rfl) rfl rfl ?_
  refine wq_l 13 d150_12 rfl rfl rfl rfl ?_
  refine wq_k 14 (-1) d150_13 (by decide) rfl ?_
  refine wq_b 30 17 d150_14 rfl (by decide) rfl (fun c14 => absurd c14 (hp_ne (by omega))) (fun c14 => ?_)
  refine wq_l 18 d150_17 rfl rfl rfl rfl ?_
  refine wq_b 26 21 d150_18 rfl (by decide) rfl (fun c18 => ?_) (fun c18 => ?_)
  · -- pc 26
    refine wq_k 27 1 d150_26 (by decide) rfl ?_
    refine wq_g 31 d150_27 (by decide) ?_
    refine wq_ri d150_31 (rfl) ?_
    have c18 : a = 0 := hp_inj (b := 0) (by omega) (by decide) c18
    rw [decide_eq_true (by rw [c18])] at hQ
    exact hQ
  · -- pc 21
    refine wq_l 22 d150_21 rfl rfl rfl rfl ?_
    refine wq_k 23 3 d150_22 (by decide) rfl ?_
    refine wq_b 30 26 d150_23 rfl (by decide) rfl (fun c23 => ?_) (fun c23 => ?_)
    · -- pc 30
      refine wq_k 31 0 d150_30 (by decide) rfl ?_
      refine wq_ri d150_31 (rfl) ?_
      rw [decide_eq_false (fun z => ?_)] at hQ
      · exact hQ
      · have u : a = 0 ∨ a = 3 := by omega
        rcases u with w | w
        · exact c18 (by rw [w]; rfl)
        · exact c23 (by rw [w]; rfl)
    · -- pc 26
      refine wq_k 27 1 d150_26 (by decide) rfl ?_
      refine wq_g 31 d150_27 (by decide) ?_
      refine wq_ri d150_31 (rfl) ?_
      have c23 : a = 3 := hp_inj (b := 3) (by omega) (by decide) (Classical.not_not.mp c23)
      rw [decide_eq_true (by rw [c23])] at hQ
      exact hQ
theorem cr150n {d : Nat} {l : List pg_N} {NN nx : Nat} {σ0 σ : pm_S} {A : rl_A} {Q : Option Value → pm_S → Prop} (h : cr_I l NN σ0 σ nx A) (hQ : Q (some (.int 0)) σ) : pm_call pm_Y0 (d + 2) 150 [.ref 7, .int (-1)] σ Q := by
  refine wq_m m150 (Nat.le_of_ble_eq_true rfl) (by decide) rfl ?_
  refine wq_l 1 d150_0 rfl rfl rfl rfl ?_
  refine wq_gr (ci := 7) (j := 0) (q := 3) 4 d150_1 rfl rfl rfl rfl ?_
  refine wq_l 5 d150_4 rfl rfl rfl rfl ?_
  refine wq_v 8 [_] d150_5 rfl rfl m66 rfl rfl (Nat.le_of_ble_eq_true rfl) rfl (ck66n (cr_S h)  ?_)
  refine wq_k 10 8 d150_8 (by decide) rfl ?_
  refine wq_a 11 d150_10 rfl rfl ?_
  refine wq_s 12 d150_11 rfl rfl (Nat.le_of_ble_eq_true rfl) rfl rfl ?_
  refine wq_l 13 d150_12 rfl rfl rfl rfl ?_
  refine wq_k 14 (-1) d150_13 (by decide) rfl ?_
  refine wq_b 30 17 d150_14 rfl (by decide) rfl (fun c14 => ?_) (fun c14 => absurd (rfl) c14)
  refine wq_k 31 0 d150_30 (by decide) rfl ?_
  refine wq_ri d150_31 (rfl) ?_
  exact hQ
def rl_st (l : List pg_N) (y : Nat) : Int32 := rl_v l (if rl_k l y = 9 then y + 3 else y)
theorem cr152 {d : Nat} {l : List pg_N} {NN nx : Nat} {σ0 σ : pm_S} {A : rl_A} {Q : Option Value → pm_S → Prop} {y : Nat} (hG : lg_G l NN) (h : cr_I l NN σ0 σ nx A) (hy : y < l.length) (h9 : rl_k l y = 9 → y + 3 < l.length) (hQ : Q (some (.int (rl_st l y))) σ) : pm_call pm_Y0 (d + 2) 152 [.ref 7, .int (nI y)] σ Q := by
  have ky := (lg_V hG hy).1
  have s3 : nI y + 3 = nI (y + 3) := nI_add y 3
  unfold rl_st at hQ
  refine wq_m m152 (Nat.le_of_ble_eq_true rfl) (by decide) rfl ?_
  refine wq_l 1 d152_0 rfl rfl rfl rfl ?_
  refine wq_gr (ci := 7) (j := 0) (q := 3) 4 d152_1 rfl rfl rfl rfl ?_
  refine wq_l 5 d152_4 rfl rfl rfl rfl ?_
  refine wq_gr (ci := 7) (j := 0) (q := 3) 8 d152_5 rfl rfl rfl rfl ?_
  refine wq_l 9 d152_8 rfl rfl rfl rfl ?_
  refine wq_v 12 [_] d152_9 rfl rfl m65 rfl rfl (Nat.le_of_ble_eq_true rfl) rfl (ck65 (cr_S h) (by omega) ?_)
  refine wq_k 14 9 d152_12 (by decide) rfl ?_
  refine wq_b 23 17 d152_14 rfl (by decide) rfl (fun c14 => ?_) (fun c14 => ?_)
  · -- pc 23
    refine wq_l 24 d152_23 rfl rfl rfl rfl ?_
    refine wq_v 27 [_] d152_24 rfl rfl m66 rfl rfl (Nat.le_of_ble_eq_true rfl) rfl (ck66 (cr_S h) hy ?_)
    refine wq_ri d152_27 (rfl) ?_
    rw [if_neg (fun z => c14 (by rw [z]; rfl))] at hQ
    exact hQ
  · -- pc 17
    have c14 : rl_k l y = 9 := hp_inj (by omega) (by decide) (Classical.not_not.mp c14)
    refine wq_l 18 d152_17 rfl rfl rfl rfl ?_
    refine wq_k 19 3 d152_18 (by decide) rfl ?_
    refine wq_a 20 d152_19 rfl rfl ?_
    rw [s3]
    refine wq_g 24 d152_20 (by decide) ?_
    refine wq_v 27 [_] d152_24 rfl rfl m66 rfl rfl (Nat.le_of_ble_eq_true rfl) rfl (ck66 (cr_S h) (h9 c14) ?_)
    refine wq_ri d152_27 (rfl) ?_
    rw [if_pos c14] at hQ
    exact hQ
theorem cr151 {d : Nat} {l : List pg_N} {NN nx : Nat} {σ0 σ : pm_S} {A : rl_A} {Q : Option Value → pm_S → Prop} {c y : Nat} (hG : lg_G l NN) (h : cr_I l NN σ0 σ nx A) (hc : c < l.length) (hkc : rl_k l c = 30 ∨ rl_k l c = 31) (hy : y < l.length) (h9 : rl_k l y = 9 → y + 3 < l.length) (hQ : Q (some (.int (b2 (decide (¬ (rl_k l y = 10 ∨ rl_bad (rl_k l c) (rl_v l c) (rl_st l y) = true)))))) σ) : pm_call pm_Y0 (d + 3) 151 [.ref 7, .int (nI c), .int (nI y)] σ Q := by
  have ky := (lg_V hG hy).1
  have kc := (lg_V hG hc).1
  have ht : ¬ (rl_k l y = 10 ∨ rl_bad (rl_k l c) (rl_v l c) (rl_st l y) = true) → Q (some (.int 1)) σ := fun z => by rw [decide_eq_true z] at hQ; exact hQ
  have hf : (rl_k l y = 10 ∨ rl_bad (rl_k l c) (rl_v l c) (rl_st l y) = true) → Q (some (.int 0)) σ := fun z => by rw [decide_eq_false (fun w => w z)] at hQ; exact hQ
  clear hQ
  generalize est : rl_st l y = tt at *
  have B31 : rl_k l c = 31 → rl_bad (rl_k l c) (rl_v l c) tt = !decide (tt = 0) := fun z => by
    unfold rl_bad
    rw [decide_eq_true z]
    by_cases w : tt = 0
    · rw [w]; rfl
    · rw [decide_eq_false w]; rfl
  have B30 : ¬ rl_k l c = 31 → rl_bad (rl_k l c) (rl_v l c) tt = (decide (tt = 0) || decide (tt = 1 ∧ ((rl_v l c).toInt < -32768 ∨ 32767 < (rl_v l c).toInt))) := fun z => by
    unfold rl_bad
    rw [decide_eq_false z]
    cases decide (tt = 0) <;> rfl
  refine wq_m m151 (Nat.le_of_ble_eq_true rfl) (by decide) rfl ?_
  refine wq_l 1 d151_0 rfl rfl rfl rfl ?_
  refine wq_gr (ci := 7) (j := 0) (q := 3) 4 d151_1 rfl rfl rfl rfl ?_
  refine wq_l 5 d151_4 rfl rfl rfl rfl ?_
  refine wq_v 8 [_] d151_5 rfl rfl m65 rfl rfl (Nat.le_of_ble_eq_true rfl) rfl (ck65 (cr_S h) (by omega) ?_)
  refine wq_k 10 10 d151_8 (by decide) rfl ?_
  refine wq_b 15 13 d151_10 rfl (by decide) rfl (fun c10 => ?_) (fun c10 => ?_)
  · -- pc 15
    refine wq_l 16 d151_15 rfl rfl rfl rfl ?_
    refine wq_l 17 d151_16 rfl rfl rfl rfl ?_
    refine wq_v 20 [_] d151_17 rfl rfl m152 rfl rfl (Nat.le_of_ble_eq_true rfl) rfl (cr152 hG h hy h9 ?_)
    rw [est]
    refine wq_s 21 d151_20 rfl rfl (Nat.le_of_ble_eq_true rfl) rfl rfl ?_
    refine wq_l 22 d151_21 rfl rfl rfl rfl ?_
    refine wq_gr (ci := 7) (j := 0) (q := 3) 25 d151_22 rfl rfl rfl rfl ?_
    refine wq_l 26 d151_25 rfl rfl rfl rfl ?_
    refine wq_v 29 [_] d151_26 rfl rfl m65 rfl rfl (Nat.le_of_ble_eq_true rfl) rfl (ck65 (cr_S h) (by omega) ?_)
    refine wq_k 31 31 d151_29 (by decide) rfl ?_
    refine wq_b 44 34 d151_31 rfl (by decide) rfl (fun c31 => ?_) (fun c31 => ?_)
    · -- pc 44
      have c31 : ¬ rl_k l c = 31 := fun z => c31 (by rw [z]; rfl)
      refine wq_l 45 d151_44 rfl rfl rfl rfl ?_
      refine wq_b 67 48 d151_45 rfl (by decide) rfl (fun c45 => ?_) (fun c45 => ?_)
      · -- pc 67
        refine wq_k 68 0 d151_67 (by decide) rfl ?_
        refine wq_ri d151_68 (rfl) ?_
        exact hf (Or.inr (by rw [B30 c31, decide_eq_true c45, Bool.true_or]))
      · -- pc 48
        refine wq_l 49 d151_48 rfl rfl rfl rfl ?_
        refine wq_gr (ci := 7) (j := 0) (q := 3) 52 d151_49 rfl rfl rfl rfl ?_
        refine wq_l 53 d151_52 rfl rfl rfl rfl ?_
        refine wq_v 56 [_] d151_53 rfl rfl m66 rfl rfl (Nat.le_of_ble_eq_true rfl) rfl (ck66 (cr_S h) (by omega) ?_)
        refine wq_l 57 d151_56 rfl rfl rfl rfl ?_
        refine wq_vs 60 [_, _] d151_57 rfl rfl m164 rfl (Nat.le_of_ble_eq_true rfl) rfl (sp164 ?_)
        refine wq_b 67 63 d151_60 rfl (by decide) rfl (fun c60 => ?_) (fun c60 => ?_)
        · -- pc 67
          have f60 := b2z c60
          refine wq_k 68 0 d151_67 (by decide) rfl ?_
          refine wq_ri d151_68 (rfl) ?_
          exact hf (Or.inr (by rw [B30 c31, decide_eq_true (Classical.not_not.mp (of_decide_eq_false f60)), Bool.or_true]))
        · -- pc 63
          have f60 := b2n c60
          refine wq_k 64 1 d151_63 (by decide) rfl ?_
          refine wq_g 68 d151_64 (by decide) ?_
          refine wq_ri d151_68 (rfl) ?_
          exact ht (fun z => z.elim (fun w => c10 (congrArg nI w)) (fun w => by rw [B30 c31, decide_eq_false c45, decide_eq_false (of_decide_eq_true f60)] at w; cases w))
    · -- pc 34
      have c31 : rl_k l c = 31 := hp_inj (by omega) (by decide) (Classical.not_not.mp c31)
      refine wq_l 35 d151_34 rfl rfl rfl rfl ?_
      refine wq_b 42 38 d151_35 rfl (by decide) rfl (fun c35 => ?_) (fun c35 => ?_)
      · -- pc 42
        refine wq_k 43 0 d151_42 (by decide) rfl ?_
        refine wq_ri d151_43 (rfl) ?_
        exact hf (Or.inr (by rw [B31 c31, decide_eq_false c35]; rfl))
      · -- pc 38
        refine wq_k 39 1 d151_38 (by decide) rfl ?_
        refine wq_g 43 d151_39 (by decide) ?_
        refine wq_ri d151_43 (rfl) ?_
        exact ht (fun z => z.elim (fun w => c10 (congrArg nI w)) (fun w => by rw [B31 c31, decide_eq_true (Classical.not_not.mp c35)] at w; cases w))
  · -- pc 13
    refine wq_k 14 0 d151_13 (by decide) rfl ?_
    refine wq_ri d151_14 (rfl) ?_
    exact hf (Or.inl (hp_inj (by omega) (by decide) (Classical.not_not.mp c10)))
