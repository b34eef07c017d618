theorem d83_0 : decode prog_6_method_6_code 0 = .ok (.aload_n 0, 1) := by decide +kernel
theorem d83_1 : decode prog_6_method_6_code 1 = .ok (.getfield 15, 3) := by decide +kernel
theorem d83_4 : decode prog_6_method_6_code 4 = .ok (.iconst 5, 1) := by decide +kernel
theorem d83_5 : decode prog_6_method_6_code 5 = .ok (.aload_n 0, 1) := by decide +kernel
theorem d83_6 : decode prog_6_method_6_code 6 = .ok (.getfield 9, 3) := by decide +kernel
theorem d83_9 : decode prog_6_method_6_code 9 = .ok (.invokevirtual 65, 3) := by decide +kernel
theorem d83_12 : decode prog_6_method_6_code 12 = .ok (.iconst 0, 1) := by decide +kernel
theorem d83_13 : decode prog_6_method_6_code 13 = .ok (.invokevirtual 34, 3) := by decide +kernel
theorem d83_16 : decode prog_6_method_6_code 16 = .ok (.istore_n 1, 1) := by decide +kernel
theorem d83_17 : decode prog_6_method_6_code 17 = .ok (.aload_n 0, 1) := by decide +kernel
theorem d83_18 : decode prog_6_method_6_code 18 = .ok (.invokevirtual 96, 3) := by decide +kernel
theorem d83_21 : decode prog_6_method_6_code 21 = .ok (.sipush 8192, 3) := by decide +kernel
theorem d83_24 : decode prog_6_method_6_code 24 = .ok (.istore_n 2, 1) := by decide +kernel
theorem d83_25 : decode prog_6_method_6_code 25 = .ok (.iload_n 2, 1) := by decide +kernel
theorem d83_26 : decode prog_6_method_6_code 26 = .ok (.ifCond .le 32, 3) := by decide +kernel
theorem d83_29 : decode prog_6_method_6_code 29 = .ok (.aload_n 0, 1) := by decide +kernel
theorem d83_30 : decode prog_6_method_6_code 30 = .ok (.getfield 9, 3) := by decide +kernel
theorem d83_33 : decode prog_6_method_6_code 33 = .ok (.bipush 56, 2) := by decide +kernel
theorem d83_35 : decode prog_6_method_6_code 35 = .ok (.invokevirtual 48, 3) := by decide +kernel
theorem d83_38 : decode prog_6_method_6_code 38 = .ok (.ifCond .eq 20, 3) := by decide +kernel
theorem d83_41 : decode prog_6_method_6_code 41 = .ok (.aload_n 0, 1) := by decide +kernel
theorem d83_42 : decode prog_6_method_6_code 42 = .ok (.getfield 9, 3) := by decide +kernel
theorem d83_45 : decode prog_6_method_6_code 45 = .ok (.invokevirtual 68, 3) := by decide +kernel
theorem d83_48 : decode prog_6_method_6_code 48 = .ok (.aload_n 0, 1) := by decide +kernel
theorem d83_49 : decode prog_6_method_6_code 49 = .ok (.invokevirtual 96, 3) := by decide +kernel
theorem d83_52 : decode prog_6_method_6_code 52 = .ok (.iinc 2 (-1), 3) := by decide +kernel
theorem d83_55 : decode prog_6_method_6_code 55 = .ok (.goto (-30), 3) := by decide +kernel
theorem d83_58 : decode prog_6_method_6_code 58 = .ok (.aload_n 0, 1) := by decide +kernel
theorem d83_59 : decode prog_6_method_6_code 59 = .ok (.getfield 9, 3) := by decide +kernel
theorem d83_62 : decode prog_6_method_6_code 62 = .ok (.bipush 10, 2) := by decide +kernel
theorem d83_64 : decode prog_6_method_6_code 64 = .ok (.invokevirtual 48, 3) := by decide +kernel
theorem d83_67 : decode prog_6_method_6_code 67 = .ok (.ifCond .eq 43, 3) := by decide +kernel
theorem d83_70 : decode prog_6_method_6_code 70 = .ok (.aload_n 0, 1) := by decide +kernel
theorem d83_71 : decode prog_6_method_6_code 71 = .ok (.getfield 9, 3) := by decide +kernel
theorem d83_74 : decode prog_6_method_6_code 74 = .ok (.invokevirtual 68, 3) := by decide +kernel
theorem d83_77 : decode prog_6_method_6_code 77 = .ok (.aload_n 0, 1) := by decide +kernel
theorem d83_78 : decode prog_6_method_6_code 78 = .ok (.getfield 15, 3) := by decide +kernel
theorem d83_81 : decode prog_6_method_6_code 81 = .ok (.bipush 7, 2) := by decide +kernel
theorem d83_83 : decode prog_6_method_6_code 83 = .ok (.aload_n 0, 1) := by decide +kernel
theorem d83_84 : decode prog_6_method_6_code 84 = .ok (.getfield 9, 3) := by decide +kernel
theorem d83_87 : decode prog_6_method_6_code 87 = .ok (.invokevirtual 65, 3) := by decide +kernel
theorem d83_90 : decode prog_6_method_6_code 90 = .ok (.aload_n 0, 1) := by decide +kernel
theorem d83_91 : decode prog_6_method_6_code 91 = .ok (.getfield 9, 3) := by decide +kernel
theorem d83_94 : decode prog_6_method_6_code 94 = .ok (.invokevirtual 71, 3) := by decide +kernel
theorem d83_97 : decode prog_6_method_6_code 97 = .ok (.invokevirtual 34, 3) := by decide +kernel
theorem d83_100 : decode prog_6_method_6_code 100 = .ok (.pop, 1) := by decide +kernel
theorem d83_101 : decode prog_6_method_6_code 101 = .ok (.aload_n 0, 1) := by decide +kernel
theorem d83_102 : decode prog_6_method_6_code 102 = .ok (.getfield 9, 3) := by decide +kernel
theorem d83_105 : decode prog_6_method_6_code 105 = .ok (.bipush 43, 2) := by decide +kernel
theorem d83_107 : decode prog_6_method_6_code 107 = .ok (.invokevirtual 78, 3) := by decide +kernel
theorem d83_110 : decode prog_6_method_6_code 110 = .ok (.aload_n 0, 1) := by decide +kernel
theorem d83_111 : decode prog_6_method_6_code 111 = .ok (.getfield 9, 3) := by decide +kernel
theorem d83_114 : decode prog_6_method_6_code 114 = .ok (.bipush 58, 2) := by decide +kernel
theorem d83_116 : decode prog_6_method_6_code 116 = .ok (.invokevirtual 78, 3) := by decide +kernel
theorem d83_119 : decode prog_6_method_6_code 119 = .ok (.aload_n 0, 1) := by decide +kernel
theorem d83_120 : decode prog_6_method_6_code 120 = .ok (.getfield 9, 3) := by decide +kernel
theorem d83_123 : decode prog_6_method_6_code 123 = .ok (.bipush 14, 2) := by decide +kernel
theorem d83_125 : decode prog_6_method_6_code 125 = .ok (.invokevirtual 48, 3) := by decide +kernel
theorem d83_128 : decode prog_6_method_6_code 128 = .ok (.ifCond .eq 10, 3) := by decide +kernel
theorem d83_131 : decode prog_6_method_6_code 131 = .ok (.aload_n 0, 1) := by decide +kernel
theorem d83_132 : decode prog_6_method_6_code 132 = .ok (.invokevirtual 99, 3) := by decide +kernel
theorem d83_135 : decode prog_6_method_6_code 135 = .ok (.goto 53, 3) := by decide +kernel
theorem d83_138 : decode prog_6_method_6_code 138 = .ok (.aload_n 0, 1) := by decide +kernel
theorem d83_139 : decode prog_6_method_6_code 139 = .ok (.getfield 9, 3) := by decide +kernel
theorem d83_142 : decode prog_6_method_6_code 142 = .ok (.bipush 41, 2) := by decide +kernel
theorem d83_144 : decode prog_6_method_6_code 144 = .ok (.invokevirtual 48, 3) := by decide +kernel
theorem d83_147 : decode prog_6_method_6_code 147 = .ok (.ifCond .eq 37, 3) := by decide +kernel
theorem d83_150 : decode prog_6_method_6_code 150 = .ok (.aload_n 0, 1) := by decide +kernel
theorem d83_151 : decode prog_6_method_6_code 151 = .ok (.getfield 15, 3) := by decide +kernel
theorem d83_154 : decode prog_6_method_6_code 154 = .ok (.bipush 10, 2) := by decide +kernel
theorem d83_156 : decode prog_6_method_6_code 156 = .ok (.aload_n 0, 1) := by decide +kernel
theorem d83_157 : decode prog_6_method_6_code 157 = .ok (.getfield 9, 3) := by decide +kernel
theorem d83_160 : decode prog_6_method_6_code 160 = .ok (.invokevirtual 65, 3) := by decide +kernel
theorem d83_163 : decode prog_6_method_6_code 163 = .ok (.aload_n 0, 1) := by decide +kernel
theorem d83_164 : decode prog_6_method_6_code 164 = .ok (.getfield 9, 3) := by decide +kernel
theorem d83_167 : decode prog_6_method_6_code 167 = .ok (.invokevirtual 71, 3) := by decide +kernel
theorem d83_170 : decode prog_6_method_6_code 170 = .ok (.invokevirtual 34, 3) := by decide +kernel
theorem d83_173 : decode prog_6_method_6_code 173 = .ok (.pop, 1) := by decide +kernel
theorem d83_174 : decode prog_6_method_6_code 174 = .ok (.aload_n 0, 1) := by decide +kernel
theorem d83_175 : decode prog_6_method_6_code 175 = .ok (.getfield 9, 3) := by decide +kernel
theorem d83_178 : decode prog_6_method_6_code 178 = .ok (.invokevirtual 68, 3) := by decide +kernel
theorem d83_181 : decode prog_6_method_6_code 181 = .ok (.goto 7, 3) := by decide +kernel
theorem d83_184 : decode prog_6_method_6_code 184 = .ok (.aload_n 0, 1) := by decide +kernel
theorem d83_185 : decode prog_6_method_6_code 185 = .ok (.invokevirtual 81, 3) := by decide +kernel
theorem d83_188 : decode prog_6_method_6_code 188 = .ok (.aload_n 0, 1) := by decide +kernel
theorem d83_189 : decode prog_6_method_6_code 189 = .ok (.getfield 9, 3) := by decide +kernel
theorem d83_192 : decode prog_6_method_6_code 192 = .ok (.bipush 47, 2) := by decide +kernel
theorem d83_194 : decode prog_6_method_6_code 194 = .ok (.invokevirtual 48, 3) := by decide +kernel
theorem d83_197 : decode prog_6_method_6_code 197 = .ok (.ifCond .eq 14, 3) := by decide +kernel
theorem d83_200 : decode prog_6_method_6_code 200 = .ok (.aload_n 0, 1) := by decide +kernel
theorem d83_201 : decode prog_6_method_6_code 201 = .ok (.getfield 9, 3) := by decide +kernel
theorem d83_204 : decode prog_6_method_6_code 204 = .ok (.invokevirtual 68, 3) := by decide +kernel
theorem d83_207 : decode prog_6_method_6_code 207 = .ok (.aload_n 0, 1) := by decide +kernel
theorem d83_208 : decode prog_6_method_6_code 208 = .ok (.invokevirtual 102, 3) := by decide +kernel
theorem d83_211 : decode prog_6_method_6_code 211 = .ok (.aload_n 0, 1) := by decide +kernel
theorem d83_212 : decode prog_6_method_6_code 212 = .ok (.getfield 9, 3) := by decide +kernel
theorem d83_215 : decode prog_6_method_6_code 215 = .ok (.bipush 57, 2) := by decide +kernel
theorem d83_217 : decode prog_6_method_6_code 217 = .ok (.invokevirtual 78, 3) := by decide +kernel
theorem d83_220 : decode prog_6_method_6_code 220 = .ok (.aload_n 0, 1) := by decide +kernel
theorem d83_221 : decode prog_6_method_6_code 221 = .ok (.getfield 15, 3) := by decide +kernel
theorem d83_224 : decode prog_6_method_6_code 224 = .ok (.iload_n 1, 1) := by decide +kernel
theorem d83_225 : decode prog_6_method_6_code 225 = .ok (.invokevirtual 42, 3) := by decide +kernel
theorem d83_228 : decode prog_6_method_6_code 228 = .ok (.return_, 1) := by decide +kernel
theorem m83 : pm_m 83 = some (⟨"TypeRules$Parser", "readDeclaration", "()V"⟩, prog_6_method_6_code, 3, none, 4, 0, 5) := rfl
theorem d82_0 : decode prog_6_method_5_code 0 = .ok (.aload_n 0, 1) := by decide +kernel
theorem d82_1 : decode prog_6_method_5_code 1 = .ok (.getfield 9, 3) := by decide +kernel
theorem d82_4 : decode prog_6_method_5_code 4 = .ok (.invokevirtual 58, 3) := by decide +kernel
theorem d82_7 : decode prog_6_method_5_code 7 = .ok (.istore_n 1, 1) := by decide +kernel
theorem d82_8 : decode prog_6_method_5_code 8 = .ok (.iload_n 1, 1) := by decide +kernel
theorem d82_9 : decode prog_6_method_5_code 9 = .ok (.bipush 6, 2) := by decide +kernel
theorem d82_11 : decode prog_6_method_5_code 11 = .ok (.if_icmp .eq 17, 3) := by decide +kernel
theorem d82_14 : decode prog_6_method_5_code 14 = .ok (.iload_n 1, 1) := by decide +kernel
theorem d82_15 : decode prog_6_method_5_code 15 = .ok (.bipush 7, 2) := by decide +kernel
theorem d82_17 : decode prog_6_method_5_code 17 = .ok (.if_icmp .eq 11, 3) := by decide +kernel
theorem d82_20 : decode prog_6_method_5_code 20 = .ok (.iload_n 1, 1) := by decide +kernel
theorem d82_21 : decode prog_6_method_5_code 21 = .ok (.bipush 8, 2) := by decide +kernel
theorem d82_23 : decode prog_6_method_5_code 23 = .ok (.if_icmp .eq 5, 3) := by decide +kernel
theorem d82_26 : decode prog_6_method_5_code 26 = .ok (.iconst 0, 1) := by decide +kernel
theorem d82_27 : decode prog_6_method_5_code 27 = .ok (.ireturn, 1) := by decide +kernel
theorem d82_28 : decode prog_6_method_5_code 28 = .ok (.aload_n 0, 1) := by decide +kernel
theorem d82_29 : decode prog_6_method_5_code 29 = .ok (.getfield 15, 3) := by decide +kernel
theorem d82_32 : decode prog_6_method_5_code 32 = .ok (.iconst 4, 1) := by decide +kernel
theorem d82_33 : decode prog_6_method_5_code 33 = .ok (.aload_n 0, 1) := by decide +kernel
theorem d82_34 : decode prog_6_method_5_code 34 = .ok (.getfield 9, 3) := by decide +kernel
theorem d82_37 : decode prog_6_method_5_code 37 = .ok (.invokevirtual 65, 3) := by decide +kernel
theorem d82_40 : decode prog_6_method_5_code 40 = .ok (.iload_n 1, 1) := by decide +kernel
theorem d82_41 : decode prog_6_method_5_code 41 = .ok (.bipush 6, 2) := by decide +kernel
theorem d82_43 : decode prog_6_method_5_code 43 = .ok (.isub, 1) := by decide +kernel
theorem d82_44 : decode prog_6_method_5_code 44 = .ok (.invokevirtual 34, 3) := by decide +kernel
theorem d82_47 : decode prog_6_method_5_code 47 = .ok (.istore_n 2, 1) := by decide +kernel
theorem d82_48 : decode prog_6_method_5_code 48 = .ok (.aload_n 0, 1) := by decide +kernel
theorem d82_49 : decode prog_6_method_5_code 49 = .ok (.getfield 9, 3) := by decide +kernel
theorem d82_52 : decode prog_6_method_5_code 52 = .ok (.invokevirtual 68, 3) := by decide +kernel
theorem d82_55 : decode prog_6_method_5_code 55 = .ok (.sipush 8192, 3) := by decide +kernel
theorem d82_58 : decode prog_6_method_5_code 58 = .ok (.istore_n 3, 1) := by decide +kernel
theorem d82_59 : decode prog_6_method_5_code 59 = .ok (.iload_n 3, 1) := by decide +kernel
theorem d82_60 : decode prog_6_method_5_code 60 = .ok (.ifCond .le 25, 3) := by decide +kernel
theorem d82_63 : decode prog_6_method_5_code 63 = .ok (.aload_n 0, 1) := by decide +kernel
theorem d82_64 : decode prog_6_method_5_code 64 = .ok (.getfield 9, 3) := by decide +kernel
theorem d82_67 : decode prog_6_method_5_code 67 = .ok (.bipush 41, 2) := by decide +kernel
theorem d82_69 : decode prog_6_method_5_code 69 = .ok (.invokevirtual 48, 3) := by decide +kernel
theorem d82_72 : decode prog_6_method_5_code 72 = .ok (.ifCond .eq 13, 3) := by decide +kernel
theorem d82_75 : decode prog_6_method_5_code 75 = .ok (.aload_n 0, 1) := by decide +kernel
theorem d82_76 : decode prog_6_method_5_code 76 = .ok (.invokevirtual 93, 3) := by decide +kernel
theorem d82_79 : decode prog_6_method_5_code 79 = .ok (.iinc 3 (-1), 3) := by decide +kernel
theorem d82_82 : decode prog_6_method_5_code 82 = .ok (.goto (-23), 3) := by decide +kernel
theorem d82_85 : decode prog_6_method_5_code 85 = .ok (.aload_n 0, 1) := by decide +kernel
theorem d82_86 : decode prog_6_method_5_code 86 = .ok (.getfield 9, 3) := by decide +kernel
theorem d82_89 : decode prog_6_method_5_code 89 = .ok (.bipush 9, 2) := by decide +kernel
theorem d82_91 : decode prog_6_method_5_code 91 = .ok (.invokevirtual 78, 3) := by decide +kernel
theorem d82_94 : decode prog_6_method_5_code 94 = .ok (.aload_n 0, 1) := by decide +kernel
theorem d82_95 : decode prog_6_method_5_code 95 = .ok (.getfield 15, 3) := by decide +kernel
theorem d82_98 : decode prog_6_method_5_code 98 = .ok (.iload_n 2, 1) := by decide +kernel
theorem d82_99 : decode prog_6_method_5_code 99 = .ok (.invokevirtual 42, 3) := by decide +kernel
theorem d82_102 : decode prog_6_method_5_code 102 = .ok (.iconst 1, 1) := by decide +kernel
theorem d82_103 : decode prog_6_method_5_code 103 = .ok (.ireturn, 1) := by decide +kernel
theorem m82 : pm_m 82 = some (⟨"TypeRules$Parser", "readSection", "()Z"⟩, prog_6_method_5_code, 4, (some FieldType.boolean), 4, 0, 5) := rfl
theorem d88_0 : decode prog_6_method_29_code 0 = .ok (.aload_n 0, 1) := by decide +kernel
theorem d88_1 : decode prog_6_method_29_code 1 = .ok (.getfield 15, 3) := by decide +kernel
theorem d88_4 : decode prog_6_method_29_code 4 = .ok (.bipush 24, 2) := by decide +kernel
theorem d88_6 : decode prog_6_method_29_code 6 = .ok (.aload_n 0, 1) := by decide +kernel
theorem d88_7 : decode prog_6_method_29_code 7 = .ok (.getfield 9, 3) := by decide +kernel
theorem d88_10 : decode prog_6_method_29_code 10 = .ok (.invokevirtual 65, 3) := by decide +kernel
theorem d88_13 : decode prog_6_method_29_code 13 = .ok (.iconst 0, 1) := by decide +kernel
theorem d88_14 : decode prog_6_method_29_code 14 = .ok (.invokevirtual 34, 3) := by decide +kernel
theorem d88_17 : decode prog_6_method_29_code 17 = .ok (.istore_n 1, 1) := by decide +kernel
theorem d88_18 : decode prog_6_method_29_code 18 = .ok (.iconst 1, 1) := by decide +kernel
theorem d88_19 : decode prog_6_method_29_code 19 = .ok (.istore_n 2, 1) := by decide +kernel
theorem d88_20 : decode prog_6_method_29_code 20 = .ok (.sipush 8192, 3) := by decide +kernel
theorem d88_23 : decode prog_6_method_29_code 23 = .ok (.istore_n 3, 1) := by decide +kernel
theorem d88_24 : decode prog_6_method_29_code 24 = .ok (.iload_n 2, 1) := by decide +kernel
theorem d88_25 : decode prog_6_method_29_code 25 = .ok (.ifCond .eq 164, 3) := by decide +kernel
theorem d88_28 : decode prog_6_method_29_code 28 = .ok (.iload_n 3, 1) := by decide +kernel
theorem d88_29 : decode prog_6_method_29_code 29 = .ok (.ifCond .le 160, 3) := by decide +kernel
theorem d88_32 : decode prog_6_method_29_code 32 = .ok (.aload_n 0, 1) := by decide +kernel
theorem d88_33 : decode prog_6_method_29_code 33 = .ok (.getfield 9, 3) := by decide +kernel
theorem d88_36 : decode prog_6_method_29_code 36 = .ok (.invokevirtual 58, 3) := by decide +kernel
theorem d88_39 : decode prog_6_method_29_code 39 = .ok (.lookupswitch 96 #[(52, 89), (61, 33), (62, 61)], 33) := by decide +kernel
theorem d88_72 : decode prog_6_method_29_code 72 = .ok (.aload_n 0, 1) := by decide +kernel
theorem d88_73 : decode prog_6_method_29_code 73 = .ok (.getfield 15, 3) := by decide +kernel
theorem d88_76 : decode prog_6_method_29_code 76 = .ok (.bipush 26, 2) := by decide +kernel
theorem d88_78 : decode prog_6_method_29_code 78 = .ok (.aload_n 0, 1) := by decide +kernel
theorem d88_79 : decode prog_6_method_29_code 79 = .ok (.getfield 9, 3) := by decide +kernel
theorem d88_82 : decode prog_6_method_29_code 82 = .ok (.invokevirtual 65, 3) := by decide +kernel
theorem d88_85 : decode prog_6_method_29_code 85 = .ok (.iconst 0, 1) := by decide +kernel
theorem d88_86 : decode prog_6_method_29_code 86 = .ok (.invokevirtual 34, 3) := by decide +kernel
theorem d88_89 : decode prog_6_method_29_code 89 = .ok (.pop, 1) := by decide +kernel
theorem d88_90 : decode prog_6_method_29_code 90 = .ok (.aload_n 0, 1) := by decide +kernel
theorem d88_91 : decode prog_6_method_29_code 91 = .ok (.getfield 9, 3) := by decide +kernel
theorem d88_94 : decode prog_6_method_29_code 94 = .ok (.invokevirtual 68, 3) := by decide +kernel
theorem d88_97 : decode prog_6_method_29_code 97 = .ok (.goto 42, 3) := by decide +kernel
theorem d88_100 : decode prog_6_method_29_code 100 = .ok (.aload_n 0, 1) := by decide +kernel
theorem d88_101 : decode prog_6_method_29_code 101 = .ok (.getfield 15, 3) := by decide +kernel
theorem d88_104 : decode prog_6_method_29_code 104 = .ok (.bipush 27, 2) := by decide +kernel
theorem d88_106 : decode prog_6_method_29_code 106 = .ok (.aload_n 0, 1) := by decide +kernel
theorem d88_107 : decode prog_6_method_29_code 107 = .ok (.getfield 9, 3) := by decide +kernel
theorem d88_110 : decode prog_6_method_29_code 110 = .ok (.invokevirtual 65, 3) := by decide +kernel
theorem d88_113 : decode prog_6_method_29_code 113 = .ok (.iconst 0, 1) := by decide +kernel
theorem d88_114 : decode prog_6_method_29_code 114 = .ok (.invokevirtual 34, 3) := by decide +kernel
theorem d88_117 : decode prog_6_method_29_code 117 = .ok (.pop, 1) := by decide +kernel
theorem d88_118 : decode prog_6_method_29_code 118 = .ok (.aload_n 0, 1) := by decide +kernel
theorem d88_119 : decode prog_6_method_29_code 119 = .ok (.getfield 9, 3) := by decide +kernel
theorem d88_122 : decode prog_6_method_29_code 122 = .ok (.invokevirtual 68, 3) := by decide +kernel
theorem d88_125 : decode prog_6_method_29_code 125 = .ok (.goto 14, 3) := by decide +kernel
theorem d88_128 : decode prog_6_method_29_code 128 = .ok (.aload_n 0, 1) := by decide +kernel
theorem d88_129 : decode prog_6_method_29_code 129 = .ok (.invokevirtual 179, 3) := by decide +kernel
theorem d88_132 : decode prog_6_method_29_code 132 = .ok (.goto 7, 3) := by decide +kernel
theorem d88_135 : decode prog_6_method_29_code 135 = .ok (.aload_n 0, 1) := by decide +kernel
theorem d88_136 : decode prog_6_method_29_code 136 = .ok (.invokevirtual 182, 3) := by decide +kernel
theorem d88_139 : decode prog_6_method_29_code 139 = .ok (.aload_n 0, 1) := by decide +kernel
theorem d88_140 : decode prog_6_method_29_code 140 = .ok (.invokevirtual 176, 3) := by decide +kernel
theorem d88_143 : decode prog_6_method_29_code 143 = .ok (.istore_n 2, 1) := by decide +kernel
theorem d88_144 : decode prog_6_method_29_code 144 = .ok (.aload_n 0, 1) := by decide +kernel
theorem d88_145 : decode prog_6_method_29_code 145 = .ok (.getfield 9, 3) := by decide +kernel
theorem d88_148 : decode prog_6_method_29_code 148 = .ok (.bipush 68, 2) := by decide +kernel
theorem d88_150 : decode prog_6_method_29_code 150 = .ok (.invokevirtual 48, 3) := by decide +kernel
theorem d88_153 : decode prog_6_method_29_code 153 = .ok (.ifCond .eq 30, 3) := by decide +kernel
theorem d88_156 : decode prog_6_method_29_code 156 = .ok (.aload_n 0, 1) := by decide +kernel
theorem d88_157 : decode prog_6_method_29_code 157 = .ok (.getfield 15, 3) := by decide +kernel
theorem d88_160 : decode prog_6_method_29_code 160 = .ok (.bipush 29, 2) := by decide +kernel
theorem d88_162 : decode prog_6_method_29_code 162 = .ok (.aload_n 0, 1) := by decide +kernel
theorem d88_163 : decode prog_6_method_29_code 163 = .ok (.getfield 9, 3) := by decide +kernel
theorem d88_166 : decode prog_6_method_29_code 166 = .ok (.invokevirtual 65, 3) := by decide +kernel
theorem d88_169 : decode prog_6_method_29_code 169 = .ok (.iconst 0, 1) := by decide +kernel
theorem d88_170 : decode prog_6_method_29_code 170 = .ok (.invokevirtual 34, 3) := by decide +kernel
theorem d88_173 : decode prog_6_method_29_code 173 = .ok (.pop, 1) := by decide +kernel
theorem d88_174 : decode prog_6_method_29_code 174 = .ok (.aload_n 0, 1) := by decide +kernel
theorem d88_175 : decode prog_6_method_29_code 175 = .ok (.getfield 9, 3) := by decide +kernel
theorem d88_178 : decode prog_6_method_29_code 178 = .ok (.invokevirtual 68, 3) := by decide +kernel
theorem d88_181 : decode prog_6_method_29_code 181 = .ok (.iconst 1, 1) := by decide +kernel
theorem d88_182 : decode prog_6_method_29_code 182 = .ok (.istore_n 2, 1) := by decide +kernel
theorem d88_183 : decode prog_6_method_29_code 183 = .ok (.iinc 3 (-1), 3) := by decide +kernel
theorem d88_186 : decode prog_6_method_29_code 186 = .ok (.goto (-162), 3) := by decide +kernel
theorem d88_189 : decode prog_6_method_29_code 189 = .ok (.aload_n 0, 1) := by decide +kernel
theorem d88_190 : decode prog_6_method_29_code 190 = .ok (.getfield 9, 3) := by decide +kernel
theorem d88_193 : decode prog_6_method_29_code 193 = .ok (.bipush 57, 2) := by decide +kernel
theorem d88_195 : decode prog_6_method_29_code 195 = .ok (.invokevirtual 78, 3) := by decide +kernel
theorem d88_198 : decode prog_6_method_29_code 198 = .ok (.aload_n 0, 1) := by decide +kernel
theorem d88_199 : decode prog_6_method_29_code 199 = .ok (.getfield 15, 3) := by decide +kernel
theorem d88_202 : decode prog_6_method_29_code 202 = .ok (.iload_n 1, 1) := by decide +kernel
theorem d88_203 : decode prog_6_method_29_code 203 = .ok (.invokevirtual 42, 3) := by decide +kernel
theorem d88_206 : decode prog_6_method_29_code 206 = .ok (.return_, 1) := by decide +kernel
theorem m88 : pm_m 88 = some (⟨"TypeRules$Parser", "readRow", "()V"⟩, prog_6_method_29_code, 4, none, 4, 0, 5) := rfl
theorem d87_0 : decode prog_6_method_27_code 0 = .ok (.aload_n 0, 1) := by decide +kernel
theorem d87_1 : decode prog_6_method_27_code 1 = .ok (.getfield 15, 3) := by decide +kernel
theorem d87_4 : decode prog_6_method_27_code 4 = .ok (.bipush 22, 2) := by decide +kernel
theorem d87_6 : decode prog_6_method_27_code 6 = .ok (.aload_n 0, 1) := by decide +kernel
theorem d87_7 : decode prog_6_method_27_code 7 = .ok (.getfield 9, 3) := by decide +kernel
theorem d87_10 : decode prog_6_method_27_code 10 = .ok (.invokevirtual 65, 3) := by decide +kernel
theorem d87_13 : decode prog_6_method_27_code 13 = .ok (.iconst 0, 1) := by decide +kernel
theorem d87_14 : decode prog_6_method_27_code 14 = .ok (.invokevirtual 34, 3) := by decide +kernel
theorem d87_17 : decode prog_6_method_27_code 17 = .ok (.istore_n 1, 1) := by decide +kernel
theorem d87_18 : decode prog_6_method_27_code 18 = .ok (.aload_n 0, 1) := by decide +kernel
theorem d87_19 : decode prog_6_method_27_code 19 = .ok (.getfield 9, 3) := by decide +kernel
theorem d87_22 : decode prog_6_method_27_code 22 = .ok (.invokevirtual 68, 3) := by decide +kernel
theorem d87_25 : decode prog_6_method_27_code 25 = .ok (.sipush 8192, 3) := by decide +kernel
theorem d87_28 : decode prog_6_method_27_code 28 = .ok (.istore_n 2, 1) := by decide +kernel
theorem d87_29 : decode prog_6_method_27_code 29 = .ok (.iload_n 2, 1) := by decide +kernel
theorem d87_30 : decode prog_6_method_27_code 30 = .ok (.ifCond .le 94, 3) := by decide +kernel
theorem d87_33 : decode prog_6_method_27_code 33 = .ok (.aload_n 0, 1) := by decide +kernel
theorem d87_34 : decode prog_6_method_27_code 34 = .ok (.getfield 9, 3) := by decide +kernel
theorem d87_37 : decode prog_6_method_27_code 37 = .ok (.bipush 39, 2) := by decide +kernel
theorem d87_39 : decode prog_6_method_27_code 39 = .ok (.invokevirtual 48, 3) := by decide +kernel
theorem d87_42 : decode prog_6_method_27_code 42 = .ok (.ifCond .eq 82, 3) := by decide +kernel
theorem d87_45 : decode prog_6_method_27_code 45 = .ok (.aload_n 0, 1) := by decide +kernel
theorem d87_46 : decode prog_6_method_27_code 46 = .ok (.getfield 15, 3) := by decide +kernel
theorem d87_49 : decode prog_6_method_27_code 49 = .ok (.bipush 23, 2) := by decide +kernel
theorem d87_51 : decode prog_6_method_27_code 51 = .ok (.aload_n 0, 1) := by decide +kernel
theorem d87_52 : decode prog_6_method_27_code 52 = .ok (.getfield 9, 3) := by decide +kernel
theorem d87_55 : decode prog_6_method_27_code 55 = .ok (.invokevirtual 65, 3) := by decide +kernel
theorem d87_58 : decode prog_6_method_27_code 58 = .ok (.iconst 0, 1) := by decide +kernel
theorem d87_59 : decode prog_6_method_27_code 59 = .ok (.invokevirtual 34, 3) := by decide +kernel
theorem d87_62 : decode prog_6_method_27_code 62 = .ok (.istore_n 3, 1) := by decide +kernel
theorem d87_63 : decode prog_6_method_27_code 63 = .ok (.aload_n 0, 1) := by decide +kernel
theorem d87_64 : decode prog_6_method_27_code 64 = .ok (.getfield 9, 3) := by decide +kernel
theorem d87_67 : decode prog_6_method_27_code 67 = .ok (.invokevirtual 68, 3) := by decide +kernel
theorem d87_70 : decode prog_6_method_27_code 70 = .ok (.aload_n 0, 1) := by decide +kernel
theorem d87_71 : decode prog_6_method_27_code 71 = .ok (.invokevirtual 173, 3) := by decide +kernel
theorem d87_74 : decode prog_6_method_27_code 74 = .ok (.sipush 8192, 3) := by decide +kernel
theorem d87_77 : decode prog_6_method_27_code 77 = .ok (.istore 4, 2) := by decide +kernel
theorem d87_79 : decode prog_6_method_27_code 79 = .ok (.iload 4, 2) := by decide +kernel
theorem d87_81 : decode prog_6_method_27_code 81 = .ok (.ifCond .le 20, 3) := by decide +kernel
theorem d87_84 : decode prog_6_method_27_code 84 = .ok (.aload_n 0, 1) := by decide +kernel
theorem d87_85 : decode prog_6_method_27_code 85 = .ok (.invokevirtual 176, 3) := by decide +kernel
theorem d87_88 : decode prog_6_method_27_code 88 = .ok (.ifCond .eq 13, 3) := by decide +kernel
theorem d87_91 : decode prog_6_method_27_code 91 = .ok (.aload_n 0, 1) := by decide +kernel
theorem d87_92 : decode prog_6_method_27_code 92 = .ok (.invokevirtual 173, 3) := by decide +kernel
theorem d87_95 : decode prog_6_method_27_code 95 = .ok (.iinc 4 (-1), 3) := by decide +kernel
theorem d87_98 : decode prog_6_method_27_code 98 = .ok (.goto (-19), 3) := by decide +kernel
theorem d87_101 : decode prog_6_method_27_code 101 = .ok (.aload_n 0, 1) := by decide +kernel
theorem d87_102 : decode prog_6_method_27_code 102 = .ok (.getfield 9, 3) := by decide +kernel
theorem d87_105 : decode prog_6_method_27_code 105 = .ok (.bipush 40, 2) := by decide +kernel
theorem d87_107 : decode prog_6_method_27_code 107 = .ok (.invokevirtual 78, 3) := by decide +kernel
theorem d87_110 : decode prog_6_method_27_code 110 = .ok (.aload_n 0, 1) := by decide +kernel
theorem d87_111 : decode prog_6_method_27_code 111 = .ok (.getfield 15, 3) := by decide +kernel
theorem d87_114 : decode prog_6_method_27_code 114 = .ok (.iload_n 3, 1) := by decide +kernel
theorem d87_115 : decode prog_6_method_27_code 115 = .ok (.invokevirtual 42, 3) := by decide +kernel
theorem d87_118 : decode prog_6_method_27_code 118 = .ok (.iinc 2 (-1), 3) := by decide +kernel
theorem d87_121 : decode prog_6_method_27_code 121 = .ok (.goto (-92), 3) := by decide +kernel
theorem d87_124 : decode prog_6_method_27_code 124 = .ok (.aload_n 0, 1) := by decide +kernel
theorem d87_125 : decode prog_6_method_27_code 125 = .ok (.getfield 9, 3) := by decide +kernel
theorem d87_128 : decode prog_6_method_27_code 128 = .ok (.bipush 38, 2) := by decide +kernel
theorem d87_130 : decode prog_6_method_27_code 130 = .ok (.invokevirtual 78, 3) := by decide +kernel
theorem d87_133 : decode prog_6_method_27_code 133 = .ok (.aload_n 0, 1) := by decide +kernel
theorem d87_134 : decode prog_6_method_27_code 134 = .ok (.getfield 15, 3) := by decide +kernel
theorem d87_137 : decode prog_6_method_27_code 137 = .ok (.iload_n 1, 1) := by decide +kernel
theorem d87_138 : decode prog_6_method_27_code 138 = .ok (.invokevirtual 42, 3) := by decide +kernel
theorem d87_141 : decode prog_6_method_27_code 141 = .ok (.return_, 1) := by decide +kernel
theorem m87 : pm_m 87 = some (⟨"TypeRules$Parser", "readLadder", "()V"⟩, prog_6_method_27_code, 5, none, 4, 0, 5) := rfl
/-! DECLARATIONS -/
def pg_d188 (T : pg_T) : pg_P := pg_seq (pg_ite (pg_is T 47) (pg_seq (pg_tok pg_stp) (pg_const T)) pg_nil) (pg_tok (pg_exp T 57))
def pg_d110 (T : pg_T) : pg_P := pg_seq (pg_tok (pg_exp T 58)) (pg_seq (pg_ite (pg_is T 14) (pg_array T) (pg_ite (pg_is T 41) (pg_leaf T 10 (pg_v T) pg_stp) (pg_simple T))) (pg_d188 T))
def pg_d58 (T : pg_T) : pg_P := pg_seq (pg_ite (pg_is T 10) (pg_seq (pg_tok pg_stp) (pg_leaf T 7 (pg_v T) (pg_exp T 43))) pg_nil) (pg_d110 T)
theorem pq83_188 {d : Nat} {T : pg_T} {n : Nat} {σ0 σ : pm_S} {c : pg_C} {L r : List pg_N} {k0 p0 z0 : Nat} {v0 x : Int32} {Q : Option Value → pm_S → Prop} {y : Int32} (hK : pc_K T n σ0) (hx : L.length < 16386 → x = nI L.length) (hR : pc_R T n σ0 σ c (L ++ [(k0, p0, v0, z0)]) r) (hQ : ∀ σ', pc_R T n σ0 σ' (pg_d188 T c).1 L ((k0, p0, v0, (r ++ (pg_d188 T c).2).length + 1) :: (r ++ (pg_d188 T c).2)) → Q none σ') : pm_WP pm_Y0 (pm_call pm_Y0 (d + 3)) 4 prog_6_method_6_code none Q 188 [.ref 4, .int x, .int y] [] σ := by
  refine wq_l 189 d83_188 rfl rfl rfl rfl ?_
  refine wq_gr (ci := 4) (j := 0) (q := 2) 192 d83_189 rfl rfl rfl rfl ?_
  refine wq_k 194 47 d83_192 (by decide) rfl ?_
  refine wq_v 197 [_] d83_194 rfl rfl m51 rfl rfl (Nat.le_of_ble_eq_true rfl) rfl (pk51 (k := 47) hK (by decide) hR ?_)
  refine wq_b 211 200 d83_197 rfl (by decide) rfl (fun c197 => ?_) (fun c197 => ?_)
  · -- pc 211
    have f197 := b2z c197
    refine wq_l 212 d83_211 rfl rfl rfl rfl ?_
    refine wq_gr (ci := 4) (j := 0) (q := 2) 215 d83_212 rfl rfl rfl rfl ?_
    refine wq_k 217 57 d83_215 (by decide) rfl ?_
    refine wq_v 220 [_] d83_217 rfl rfl m49 rfl rfl (Nat.le_of_ble_eq_true rfl) rfl (pk49 (k := 57) hK (by decide) hR (fun σ217 h217 => ?_))
    refine wq_l 221 d83_220 rfl rfl rfl rfl ?_
    refine wq_gr (ci := 4) (j := 1) (q := 3) 224 d83_221 rfl rfl rfl rfl ?_
    refine wq_l 225 d83_224 rfl rfl rfl rfl ?_
    refine wq_v 228 [_] d83_225 rfl rfl m59 rfl rfl (Nat.le_of_ble_eq_true rfl) rfl (pk59 hx h217 (fun σ225 h225 => ?_))
    refine wq_rv d83_228 ?_
    exact hQ _ (pc_e h225 (by simp only [pg_d188, pg_seq, pg_tok, pg_ite, pg_nil, pg_leaf, if_true, if_false, Bool.false_eq_true, f197]; done) (by simp only [pg_d188, pg_seq, pg_tok, pg_ite, pg_nil, pg_leaf, List.append_assoc, List.nil_append, List.append_nil, List.cons_append, List.singleton_append, List.length_append, List.length_cons, List.length_nil, List.length_singleton, if_true, if_false, Bool.false_eq_true, f197]; done))
  · -- pc 200
    have f197 := b2n c197
    refine wq_l 201 d83_200 rfl rfl rfl rfl ?_
    refine wq_gr (ci := 4) (j := 0) (q := 2) 204 d83_201 rfl rfl rfl rfl ?_
    refine wq_v 207 [] d83_204 rfl rfl m47 rfl rfl (Nat.le_of_ble_eq_true rfl) rfl (pk47 hK hR (pg_isl f197 (by decide)).1 (pg_isl f197 (by decide)).2 (fun σ204 h204 => ?_))
    refine wq_l 208 d83_207 rfl rfl rfl rfl ?_
    refine wq_v 211 [] d83_208 rfl rfl m86 rfl rfl (Nat.le_of_ble_eq_true rfl) rfl (pp86 hK h204 (fun σ208 h208 => ?_))
    refine wq_l 212 d83_211 rfl rfl rfl rfl ?_
    refine wq_gr (ci := 4) (j := 0) (q := 2) 215 d83_212 rfl rfl rfl rfl ?_
    refine wq_k 217 57 d83_215 (by decide) rfl ?_
    refine wq_v 220 [_] d83_217 rfl rfl m49 rfl rfl (Nat.le_of_ble_eq_true rfl) rfl (pk49 (k := 57) hK (by decide) h208 (fun σ217 h217 => ?_))
    refine wq_l 221 d83_220 rfl rfl rfl rfl ?_
    refine wq_gr (ci := 4) (j := 1) (q := 3) 224 d83_221 rfl rfl rfl rfl ?_
    refine wq_l 225 d83_224 rfl rfl rfl rfl ?_
    refine wq_v 228 [_] d83_225 rfl rfl m59 rfl rfl (Nat.le_of_ble_eq_true rfl) rfl (pk59 hx h217 (fun σ225 h225 => ?_))
    refine wq_rv d83_228 ?_
    exact hQ _ (pc_e h225 (by simp only [pg_d188, pg_seq, pg_tok, pg_ite, pg_nil, pg_leaf, if_true, if_false, Bool.false_eq_true, f197]; done) (by simp only [pg_d188, pg_seq, pg_tok, pg_ite, pg_nil, pg_leaf, List.append_assoc, List.nil_append, List.append_nil, List.cons_append, List.singleton_append, List.length_append, List.length_cons, List.length_nil, List.length_singleton, if_true, if_false, Bool.false_eq_true, f197]; done))
theorem pq83_110 {d : Nat} {T : pg_T} {n : Nat} {σ0 σ : pm_S} {c : pg_C} {L r : List pg_N} {k0 p0 z0 : Nat} {v0 x : Int32} {Q : Option Value → pm_S → Prop} {y : Int32} (hK : pc_K T n σ0) (hx : L.length < 16386 → x = nI L.length) (hR : pc_R T n σ0 σ c (L ++ [(k0, p0, v0, z0)]) r) (hQ : ∀ σ', pc_R T n σ0 σ' (pg_d110 T c).1 L ((k0, p0, v0, (r ++ (pg_d110 T c).2).length + 1) :: (r ++ (pg_d110 T c).2)) → Q none σ') : pm_WP pm_Y0 (pm_call pm_Y0 (d + 3)) 4 prog_6_method_6_code none Q 110 [.ref 4, .int x, .int y] [] σ := by
  refine wq_l 111 d83_110 rfl rfl rfl rfl ?_
  refine wq_gr (ci := 4) (j := 0) (q := 2) 114 d83_111 rfl rfl rfl rfl ?_
  refine wq_k 116 58 d83_114 (by decide) rfl ?_
  refine wq_v 119 [_] d83_116 rfl rfl m49 rfl rfl (Nat.le_of_ble_eq_true rfl) rfl (pk49 (k := 58) hK (by decide) hR (fun σ116 h116 => ?_))
  refine wq_l 120 d83_119 rfl rfl rfl rfl ?_
  refine wq_gr (ci := 4) (j := 0) (q := 2) 123 d83_120 rfl rfl rfl rfl ?_
  refine wq_k 125 14 d83_123 (by decide) rfl ?_
  refine wq_v 128 [_] d83_125 rfl rfl m51 rfl rfl (Nat.le_of_ble_eq_true rfl) rfl (pk51 (k := 14) hK (by decide) h116 ?_)
  refine wq_b 138 131 d83_128 rfl (by decide) rfl (fun c128 => ?_) (fun c128 => ?_)
  · -- pc 138
    have f128 := b2z c128
    refine wq_l 139 d83_138 rfl rfl rfl rfl ?_
    refine wq_gr (ci := 4) (j := 0) (q := 2) 142 d83_139 rfl rfl rfl rfl ?_
    refine wq_k 144 41 d83_142 (by decide) rfl ?_
    refine wq_v 147 [_] d83_144 rfl rfl m51 rfl rfl (Nat.le_of_ble_eq_true rfl) rfl (pk51 (k := 41) hK (by decide) h116 ?_)
    refine wq_b 184 150 d83_147 rfl (by decide) rfl (fun c147 => ?_) (fun c147 => ?_)
    · -- pc 184
      have f147 := b2z c147
      refine wq_l 185 d83_184 rfl rfl rfl rfl ?_
      refine wq_v 188 [] d83_185 rfl rfl m81 rfl rfl (Nat.le_of_ble_eq_true rfl) rfl (pp81 hK h116 (fun σ185 h185 => ?_))
      exact pq83_188 hK hx h185 (fun σ' h' => hQ σ' (pc_e h' (by simp only [pg_d110, pg_seq, pg_tok, pg_ite, pg_nil, pg_leaf, if_true, if_false, Bool.false_eq_true, f128, f147]; done) (by simp only [pg_d110, pg_seq, pg_tok, pg_ite, pg_nil, pg_leaf, List.append_assoc, List.nil_append, List.append_nil, List.cons_append, List.singleton_append, List.length_append, List.length_cons, List.length_nil, List.length_singleton, if_true, if_false, Bool.false_eq_true, f128, f147]; done)))
    · -- pc 150
      have f147 := b2n c147
      refine wq_l 151 d83_150 rfl rfl rfl rfl ?_
      refine wq_gr (ci := 4) (j := 1) (q := 3) 154 d83_151 rfl rfl rfl rfl ?_
      refine wq_k 156 10 d83_154 (by decide) rfl ?_
      refine wq_l 157 d83_156 rfl rfl rfl rfl ?_
      refine wq_gr (ci := 4) (j := 0) (q := 2) 160 d83_157 rfl rfl rfl rfl ?_
      refine wq_v 163 [] d83_160 rfl rfl m46 rfl rfl (Nat.le_of_ble_eq_true rfl) rfl (pk46 hK h116 ?_)
      refine wq_l 164 d83_163 rfl rfl rfl rfl ?_
      refine wq_gr (ci := 4) (j := 0) (q := 2) 167 d83_164 rfl rfl rfl rfl ?_
      refine wq_v 170 [] d83_167 rfl rfl m48 rfl rfl (Nat.le_of_ble_eq_true rfl) rfl (pk48 hK h116 ?_)
      refine wq_v 173 [_, _, _] d83_170 rfl rfl m57 rfl rfl (Nat.le_of_ble_eq_true rfl) rfl (pk57 (k := 10) h116 (fun σ170 x170 h170 => ?_))
      refine wq_a 174 d83_173 rfl rfl ?_
      refine wq_l 175 d83_174 rfl rfl rfl rfl ?_
      refine wq_gr (ci := 4) (j := 0) (q := 2) 178 d83_175 rfl rfl rfl rfl ?_
      refine wq_v 181 [] d83_178 rfl rfl m47 rfl rfl (Nat.le_of_ble_eq_true rfl) rfl (pk47 hK h170 (pg_isl f147 (by decide)).1 (pg_isl f147 (by decide)).2 (fun σ178 h178 => ?_))
      refine wq_g 188 d83_181 (by decide) ?_
      exact pq83_188 hK hx h178 (fun σ' h' => hQ σ' (pc_e h' (by simp only [pg_d110, pg_seq, pg_tok, pg_ite, pg_nil, pg_leaf, if_true, if_false, Bool.false_eq_true, f128, f147]; done) (by simp only [pg_d110, pg_seq, pg_tok, pg_ite, pg_nil, pg_leaf, List.append_assoc, List.nil_append, List.append_nil, List.cons_append, List.singleton_append, List.length_append, List.length_cons, List.length_nil, List.length_singleton, if_true, if_false, Bool.false_eq_true, f128, f147]; done)))
  · -- pc 131
    have f128 := b2n c128
    refine wq_l 132 d83_131 rfl rfl rfl rfl ?_
    refine wq_v 135 [] d83_132 rfl rfl m85 rfl rfl (Nat.le_of_ble_eq_true rfl) rfl (pp85 hK (pg_isl f128 (by decide)) h116 (fun σ132 h132 => ?_))
    refine wq_g 188 d83_135 (by decide) ?_
    exact pq83_188 hK hx h132 (fun σ' h' => hQ σ' (pc_e h' (by simp only [pg_d110, pg_seq, pg_tok, pg_ite, pg_nil, pg_leaf, if_true, if_false, Bool.false_eq_true, f128]; done) (by simp only [pg_d110, pg_seq, pg_tok, pg_ite, pg_nil, pg_leaf, List.append_assoc, List.nil_append, List.append_nil, List.cons_append, List.singleton_append, List.length_append, List.length_cons, List.length_nil, List.length_singleton, if_true, if_false, Bool.false_eq_true, f128]; done)))
theorem pq83_58 {d : Nat} {T : pg_T} {n : Nat} {σ0 σ : pm_S} {c : pg_C} {L r : List pg_N} {k0 p0 z0 : Nat} {v0 x : Int32} {Q : Option Value → pm_S → Prop} {y : Int32} (hK : pc_K T n σ0) (hx : L.length < 16386 → x = nI L.length) (hR : pc_R T n σ0 σ c (L ++ [(k0, p0, v0, z0)]) r) (hQ : ∀ σ', pc_R T n σ0 σ' (pg_d58 T c).1 L ((k0, p0, v0, (r ++ (pg_d58 T c).2).length + 1) :: (r ++ (pg_d58 T c).2)) → Q none σ') : pm_WP pm_Y0 (pm_call pm_Y0 (d + 3)) 4 prog_6_method_6_code none Q 58 [.ref 4, .int x, .int y] [] σ := by
  refine wq_l 59 d83_58 rfl rfl rfl rfl ?_
  refine wq_gr (ci := 4) (j := 0) (q := 2) 62 d83_59 rfl rfl rfl rfl ?_
  refine wq_k 64 10 d83_62 (by decide) rfl ?_
  refine wq_v 67 [_] d83_64 rfl rfl m51 rfl rfl (Nat.le_of_ble_eq_true rfl) rfl (pk51 (k := 10) hK (by decide) hR ?_)
  refine wq_b 110 70 d83_67 rfl (by decide) rfl (fun c67 => ?_) (fun c67 => ?_)
  · -- pc 110
    have f67 := b2z c67
    exact pq83_110 hK hx hR (fun σ' h' => hQ σ' (pc_e h' (by simp only [pg_d58, pg_seq, pg_tok, pg_ite, pg_nil, pg_leaf, if_true, if_false, Bool.false_eq_true, f67]; done) (by simp only [pg_d58, pg_seq, pg_tok, pg_ite, pg_nil, pg_leaf, List.append_assoc, List.nil_append, List.append_nil, List.cons_append, List.singleton_append, List.length_append, List.length_cons, List.length_nil, List.length_singleton, if_true, if_false, Bool.false_eq_true, f67]; done)))
  · -- pc 70
    have f67 := b2n c67
    refine wq_l 71 d83_70 rfl rfl rfl rfl ?_
    refine wq_gr (ci := 4) (j := 0) (q := 2) 74 d83_71 rfl rfl rfl rfl ?_
    refine wq_v 77 [] d83_74 rfl rfl m47 rfl rfl (Nat.le_of_ble_eq_true rfl) rfl (pk47 hK hR (pg_isl f67 (by decide)).1 (pg_isl f67 (by decide)).2 (fun σ74 h74 => ?_))
    refine wq_l 78 d83_77 rfl rfl rfl rfl ?_
    refine wq_gr (ci := 4) (j := 1) (q := 3) 81 d83_78 rfl rfl rfl rfl ?_
    refine wq_k 83 7 d83_81 (by decide) rfl ?_
    refine wq_l 84 d83_83 rfl rfl rfl rfl ?_
    refine wq_gr (ci := 4) (j := 0) (q := 2) 87 d83_84 rfl rfl rfl rfl ?_
    refine wq_v 90 [] d83_87 rfl rfl m46 rfl rfl (Nat.le_of_ble_eq_true rfl) rfl (pk46 hK h74 ?_)
    refine wq_l 91 d83_90 rfl rfl rfl rfl ?_
    refine wq_gr (ci := 4) (j := 0) (q := 2) 94 d83_91 rfl rfl rfl rfl ?_
    refine wq_v 97 [] d83_94 rfl rfl m48 rfl rfl (Nat.le_of_ble_eq_true rfl) rfl (pk48 hK h74 ?_)
    refine wq_v 100 [_, _, _] d83_97 rfl rfl m57 rfl rfl (Nat.le_of_ble_eq_true rfl) rfl (pk57 (k := 7) h74 (fun σ97 x97 h97 => ?_))
    refine wq_a 101 d83_100 rfl rfl ?_
    refine wq_l 102 d83_101 rfl rfl rfl rfl ?_
    refine wq_gr (ci := 4) (j := 0) (q := 2) 105 d83_102 rfl rfl rfl rfl ?_
    refine wq_k 107 43 d83_105 (by decide) rfl ?_
    refine wq_v 110 [_] d83_107 rfl rfl m49 rfl rfl (Nat.le_of_ble_eq_true rfl) rfl (pk49 (k := 43) hK (by decide) h97 (fun σ107 h107 => ?_))
    exact pq83_110 hK hx h107 (fun σ' h' => hQ σ' (pc_e h' (by simp only [pg_d58, pg_seq, pg_tok, pg_ite, pg_nil, pg_leaf, if_true, if_false, Bool.false_eq_true, f67]; done) (by simp only [pg_d58, pg_seq, pg_tok, pg_ite, pg_nil, pg_leaf, List.append_assoc, List.nil_append, List.append_nil, List.cons_append, List.singleton_append, List.length_append, List.length_cons, List.length_nil, List.length_singleton, if_true, if_false, Bool.false_eq_true, f67]; done)))
theorem pl83 {d : Nat} {T : pg_T} {n : Nat} {σ0 : pm_S} {l : List pg_N} {Q : Option Value → pm_S → Prop} {x : Int32} (hK : pc_K T n σ0) : ∀ (k : Nat) (σ : pm_S) (c : pg_C) (s : List pg_N), k ≤ 8192 → pc_R T n σ0 σ c l s → (∀ σ' (y : Int32), pc_R T n σ0 σ' (pg_whl (pg_is T 56) (pg_seq (pg_tok pg_stp) (pg_name T)) k c).1 l (s ++ (pg_whl (pg_is T 56) (pg_seq (pg_tok pg_stp) (pg_name T)) k c).2) → pm_WP pm_Y0 (pm_call pm_Y0 (d + 3)) 4 prog_6_method_6_code none Q 58 [.ref 4, .int x, .int y] [] σ') → pm_WP pm_Y0 (pm_call pm_Y0 (d + 3)) 4 prog_6_method_6_code none Q 25 [.ref 4, .int x, .int (nI k)] [] σ := by
  intro k
  induction k with
  | zero =>
    intro σ c s hk hR hX
    refine wq_l 26 d83_25 rfl rfl rfl rfl ?_
    refine wq_b 58 29 d83_26 rfl (by decide) rfl (fun c26 => ?_) (fun c26 => absurd (by decide) c26)
    exact hX _ _ (pc_e hR rfl (by simp only [pg_whl, pg_nil, List.append_assoc, List.nil_append, List.append_nil, List.cons_append, List.singleton_append, List.length_append, List.length_cons, List.length_nil, List.length_singleton]))
  | succ k ih =>
    intro σ c s hk hR hX
    have ek := nI_toInt (n := k + 1) (by omega)
    refine wq_l 26 d83_25 rfl rfl rfl rfl ?_
    refine wq_b 58 29 d83_26 rfl (by decide) rfl (fun c26 => absurd c26 ((by simp only [i_lt, i_le, i_eq, ne_eq, Int32.reduceToInt, b2_0, b2_1, decide_eq_true_eq, decide_eq_false_iff_not, Bool.not_eq_true, Bool.not_eq_false] at * <;> omega))) (fun c26 => ?_)
    refine wq_l 30 d83_29 rfl rfl rfl rfl ?_
    refine wq_gr (ci := 4) (j := 0) (q := 2) 33 d83_30 rfl rfl rfl rfl ?_
    refine wq_k 35 56 d83_33 (by decide) rfl ?_
    refine wq_v 38 [_] d83_35 rfl rfl m51 rfl rfl (Nat.le_of_ble_eq_true rfl) rfl (pk51 (k := 56) hK (by decide) hR ?_)
    refine wq_b 58 41 d83_38 rfl (by decide) rfl (fun c38 => ?_) (fun c38 => ?_)
    · -- pc 58
      have f38 := b2z c38
      exact hX _ _ (pc_e hR (by simp only [pg_whl, pg_ite, pg_nil, if_false, Bool.false_eq_true, f38]; done) (by simp only [pg_whl, pg_ite, pg_nil, if_false, Bool.false_eq_true, f38, List.append_assoc, List.nil_append, List.append_nil, List.cons_append, List.singleton_append, List.length_append, List.length_cons, List.length_nil, List.length_singleton]; done))
    · -- pc 41
      have f38 := b2n c38
      refine wq_l 42 d83_41 rfl rfl rfl rfl ?_
      refine wq_gr (ci := 4) (j := 0) (q := 2) 45 d83_42 rfl rfl rfl rfl ?_
      refine wq_v 48 [] d83_45 rfl rfl m47 rfl rfl (Nat.le_of_ble_eq_true rfl) rfl (pk47 hK hR (pg_isl f38 (by decide)).1 (pg_isl f38 (by decide)).2 (fun σ45 h45 => ?_))
      refine wq_l 49 d83_48 rfl rfl rfl rfl ?_
      refine wq_v 52 [] d83_49 rfl rfl m84 rfl rfl (Nat.le_of_ble_eq_true rfl) rfl (pp84 hK h45 (fun σ49 h49 => ?_))
      refine wq_i 55 d83_52 rfl rfl rfl ?_
      refine wq_g 25 d83_55 (by decide) ?_
      rw [show nI (k + 1) + Int32.ofInt (-1) = nI k from nI_m1 k]
      exact ih _ _ _ (by omega) h49 (fun σ' y h' => hX σ' y (pc_e h' (by simp only [pg_whl, pg_ite, pg_seq, pg_tok, if_true, f38]; done) (by simp only [pg_whl, pg_ite, pg_seq, pg_tok, if_true, f38, List.append_assoc, List.nil_append, List.append_nil, List.cons_append, List.singleton_append, List.length_append, List.length_cons, List.length_nil, List.length_singleton]; done)))
theorem pg_decl_e (T : pg_T) : pg_decl T = pg_node 5 (pg_pl T) (fun _ => 0) (pg_seq (pg_name T) (pg_seq (pg_whl (pg_is T 56) (pg_seq (pg_tok pg_stp) (pg_name T)) pg_M) (pg_d58 T))) := rfl
theorem pp83 {d : Nat} {T : pg_T} {n : Nat} {σ0 σ : pm_S} {c : pg_C} {l s : List pg_N} {Q : Option Value → pm_S → Prop} (hK : pc_K T n σ0) (hR : pc_R T n σ0 σ c l s) (hQ : ∀ σ', pc_R T n σ0 σ' (pg_decl T c).1 l (s ++ (pg_decl T c).2) → Q none σ') : pm_call pm_Y0 (d + 4) 83 [.ref 4] σ Q := by
  refine wq_m m83 (Nat.le_of_ble_eq_true rfl) (by decide) rfl ?_
  refine wq_l 1 d83_0 rfl rfl rfl rfl ?_
  refine wq_gr (ci := 4) (j := 1) (q := 3) 4 d83_1 rfl rfl rfl rfl ?_
  refine wq_k 5 5 d83_4 (by decide) rfl ?_
  refine wq_l 6 d83_5 rfl rfl rfl rfl ?_
  refine wq_gr (ci := 4) (j := 0) (q := 2) 9 d83_6 rfl rfl rfl rfl ?_
  refine wq_v 12 [] d83_9 rfl rfl m46 rfl rfl (Nat.le_of_ble_eq_true rfl) rfl (pk46 hK hR ?_)
  refine wq_k 13 0 d83_12 (by decide) rfl ?_
  refine wq_v 16 [_, _, _] d83_13 rfl rfl m57 rfl rfl (Nat.le_of_ble_eq_true rfl) rfl (pk57o (k := 5) hR (fun σ13 x13 hx13 h13 => ?_))
  refine wq_s 17 d83_16 rfl rfl (Nat.le_of_ble_eq_true rfl) rfl rfl ?_
  refine wq_l 18 d83_17 rfl rfl rfl rfl ?_
  refine wq_v 21 [] d83_18 rfl rfl m84 rfl rfl (Nat.le_of_ble_eq_true rfl) rfl (pp84 hK h13 (fun σ18 h18 => ?_))
  refine wq_k 24 8192 d83_21 (by decide) rfl ?_
  refine wq_s 25 d83_24 rfl rfl (Nat.le_of_ble_eq_true rfl) rfl rfl ?_
  refine pl83 (x := x13) hK pg_M _ _ _ (Nat.le_refl _) h18 (fun σl yl hl => ?_)
  exact pq83_58 hK hx13 hl (fun σ' h' => hQ σ' (pc_e h' (by simp only [pg_decl_e, pg_node, pg_seq, if_true, if_false, Bool.false_eq_true]) (by simp only [pg_decl_e, pg_node, pg_seq, List.append_assoc, List.nil_append, List.append_nil, List.cons_append, List.singleton_append, List.length_append, List.length_cons, List.length_nil, List.length_singleton, if_true, if_false, Bool.false_eq_true])))
theorem pl82 {d : Nat} {T : pg_T} {n : Nat} {σ0 : pm_S} {l : List pg_N} {Q : Option Value → pm_S → Prop} {w x : Int32} (hK : pc_K T n σ0) : ∀ (k : Nat) (σ : pm_S) (c : pg_C) (s : List pg_N), k ≤ 8192 → pc_R T n σ0 σ c l s → (∀ σ' (y : Int32), pc_R T n σ0 σ' (pg_whl (pg_is T 41) (pg_decl T) k c).1 l (s ++ (pg_whl (pg_is T 41) (pg_decl T) k c).2) → pm_WP pm_Y0 (pm_call pm_Y0 (d + 4)) 4 prog_6_method_5_code (some FieldType.boolean) Q 85 [.ref 4, .int w, .int x, .int y] [] σ') → pm_WP pm_Y0 (pm_call pm_Y0 (d + 4)) 4 prog_6_method_5_code (some FieldType.boolean) Q 59 [.ref 4, .int w, .int x, .int (nI k)] [] σ := by
  intro k
  induction k with
  | zero =>
    intro σ c s hk hR hX
    refine wq_l 60 d82_59 rfl rfl rfl rfl ?_
    refine wq_b 85 63 d82_60 rfl (by decide) rfl (fun c60 => ?_) (fun c60 => absurd (by decide) c60)
    exact hX _ _ (pc_e hR rfl (by simp only [pg_whl, pg_nil, List.append_assoc, List.nil_append, List.append_nil, List.cons_append, List.singleton_append, List.length_append, List.length_cons, List.length_nil, List.length_singleton]))
  | succ k ih =>
    intro σ c s hk hR hX
    have ek := nI_toInt (n := k + 1) (by omega)
    refine wq_l 60 d82_59 rfl rfl rfl rfl ?_
    refine wq_b 85 63 d82_60 rfl (by decide) rfl (fun c60 => absurd c60 ((by simp only [i_lt, i_le, i_eq, ne_eq, Int32.reduceToInt, b2_0, b2_1, decide_eq_true_eq, decide_eq_false_iff_not, Bool.not_eq_true, Bool.not_eq_false] at * <;> omega))) (fun c60 => ?_)
    refine wq_l 64 d82_63 rfl rfl rfl rfl ?_
    refine wq_gr (ci := 4) (j := 0) (q := 2) 67 d82_64 rfl rfl rfl rfl ?_
    refine wq_k 69 41 d82_67 (by decide) rfl ?_
    refine wq_v 72 [_] d82_69 rfl rfl m51 rfl rfl (Nat.le_of_ble_eq_true rfl) rfl (pk51 (k := 41) hK (by decide) hR ?_)
    refine wq_b 85 75 d82_72 rfl (by decide) rfl (fun c72 => ?_) (fun c72 => ?_)
    · -- pc 85
      have f72 := b2z c72
      exact hX _ _ (pc_e hR (by simp only [pg_whl, pg_ite, pg_nil, if_false, Bool.false_eq_true, f72]; done) (by simp only [pg_whl, pg_ite, pg_nil, if_false, Bool.false_eq_true, f72, List.append_assoc, List.nil_append, List.append_nil, List.cons_append, List.singleton_append, List.length_append, List.length_cons, List.length_nil, List.length_singleton]; done))
    · -- pc 75
      have f72 := b2n c72
      refine wq_l 76 d82_75 rfl rfl rfl rfl ?_
      refine wq_v 79 [] d82_76 rfl rfl m83 rfl rfl (Nat.le_of_ble_eq_true rfl) rfl (pp83 hK hR (fun σ76 h76 => ?_))
      refine wq_i 82 d82_79 rfl rfl rfl ?_
      refine wq_g 59 d82_82 (by decide) ?_
      rw [show nI (k + 1) + Int32.ofInt (-1) = nI k from nI_m1 k]
      exact ih _ _ _ (by omega) h76 (fun σ' y h' => hX σ' y (pc_e h' (by simp only [pg_whl, pg_ite, pg_seq, pg_tok, if_true, f72]; done) (by simp only [pg_whl, pg_ite, pg_seq, pg_tok, if_true, f72, List.append_assoc, List.nil_append, List.append_nil, List.cons_append, List.singleton_append, List.length_append, List.length_cons, List.length_nil, List.length_singleton]; done)))
theorem pq82_85 {d : Nat} {T : pg_T} {n : Nat} {σ0 σ : pm_S} {c : pg_C} {L r : List pg_N} {k0 p0 z0 : Nat} {v0 x : Int32} {Q : Option Value → pm_S → Prop} {w y : Int32} (hK : pc_K T n σ0) (hx : L.length < 16386 → x = nI L.length) (hR : pc_R T n σ0 σ c (L ++ [(k0, p0, v0, z0)]) r) (hQ : ∀ σ', pc_R T n σ0 σ' (pg_tok (pg_exp T 9) c).1 L ((k0, p0, v0, (r ++ (pg_tok (pg_exp T 9) c).2).length + 1) :: (r ++ (pg_tok (pg_exp T 9) c).2)) → Q (some (.int 1)) σ') : pm_WP pm_Y0 (pm_call pm_Y0 (d + 4)) 4 prog_6_method_5_code (some FieldType.boolean) Q 85 [.ref 4, .int w, .int x, .int y] [] σ := by
  refine wq_l 86 d82_85 rfl rfl rfl rfl ?_
  refine wq_gr (ci := 4) (j := 0) (q := 2) 89 d82_86 rfl rfl rfl rfl ?_
  refine wq_k 91 9 d82_89 (by decide) rfl ?_
  refine wq_v 94 [_] d82_91 rfl rfl m49 rfl rfl (Nat.le_of_ble_eq_true rfl) rfl (pk49 (k := 9) hK (by decide) hR (fun σ91 h91 => ?_))
  refine wq_l 95 d82_94 rfl rfl rfl rfl ?_
  refine wq_gr (ci := 4) (j := 1) (q := 3) 98 d82_95 rfl rfl rfl rfl ?_
  refine wq_l 99 d82_98 rfl rfl rfl rfl ?_
  refine wq_v 102 [_] d82_99 rfl rfl m59 rfl rfl (Nat.le_of_ble_eq_true rfl) rfl (pk59 hx h91 (fun σ99 h99 => ?_))
  refine wq_k 103 1 d82_102 (by decide) rfl ?_
  refine wq_ri d82_103 (rfl) ?_
  exact hQ _ (pc_e h99 (by simp only [pg_tok, if_true, if_false, Bool.false_eq_true]; done) (by simp only [pg_tok, List.append_assoc, List.nil_append, List.append_nil, List.cons_append, List.singleton_append, List.length_append, List.length_cons, List.length_nil, List.length_singleton, if_true, if_false, Bool.false_eq_true]; done))
theorem pp82 {d : Nat} {T : pg_T} {n : Nat} {σ0 σ : pm_S} {c : pg_C} {l s : List pg_N} {Q : Option Value → pm_S → Prop} (hK : pc_K T n σ0) (hR : pc_R T n σ0 σ c l s) (hQ : ∀ σ', pc_R T n σ0 σ' (pg_ite (pg_any T [6, 7, 8]) (pg_sect T) pg_nil c).1 l (s ++ (pg_ite (pg_any T [6, 7, 8]) (pg_sect T) pg_nil c).2) → Q (some (.int (b2 (pg_any T [6, 7, 8] c)))) σ') : pm_call pm_Y0 (d + 5) 82 [.ref 4] σ Q := by
  have kq : ∀ k, k < 100 → (nI (pg_k T c) = nI k ↔ pg_k T c = k) := fun k hk => pc_kq hK hk
  refine wq_m m82 (Nat.le_of_ble_eq_true rfl) (by decide) rfl ?_
  refine wq_l 1 d82_0 rfl rfl rfl rfl ?_
  refine wq_gr (ci := 4) (j := 0) (q := 2) 4 d82_1 rfl rfl rfl rfl ?_
  refine wq_v 7 [] d82_4 rfl rfl m45 rfl rfl (Nat.le_of_ble_eq_true rfl) rfl (pk45 hR ?_)
  refine wq_s 8 d82_7 rfl rfl (Nat.le_of_ble_eq_true rfl) rfl rfl ?_
  refine wq_l 9 d82_8 rfl rfl rfl rfl ?_
  refine wq_k 11 6 d82_9 (by decide) rfl ?_
  refine wq_b 28 14 d82_11 rfl (by decide) rfl (fun c11 => ?_) (fun c11 => ?_)
  · -- pc 28
    have hk : pg_k T c = 6 ∨ pg_k T c = 7 ∨ pg_k T c = 8 := by first | exact Or.inl ((kq 6 (by decide)).mp c11) | exact Or.inr (Or.inl ((kq 7 (by decide)).mp c17)) | exact Or.inr (Or.inr ((kq 8 (by decide)).mp c23))
    have hl : pg_live T c ∧ T.1 c.1 ≠ 44 := by rcases hk with z | z | z <;> exact pg_kl z (by decide)
    have ha : pg_any T [6, 7, 8] c = true := by rcases hk with z | z | z <;> exact pg_any3 z (by decide)
    rw [ha] at hQ
    refine wq_l 29 d82_28 rfl rfl rfl rfl ?_
    refine wq_gr (ci := 4) (j := 1) (q := 3) 32 d82_29 rfl rfl rfl rfl ?_
    refine wq_k 33 4 d82_32 (by decide) rfl ?_
    refine wq_l 34 d82_33 rfl rfl rfl rfl ?_
    refine wq_gr (ci := 4) (j := 0) (q := 2) 37 d82_34 rfl rfl rfl rfl ?_
    refine wq_v 40 [] d82_37 rfl rfl m46 rfl rfl (Nat.le_of_ble_eq_true rfl) rfl (pk46 hK hR ?_)
    refine wq_l 41 d82_40 rfl rfl rfl rfl ?_
    refine wq_k 43 6 d82_41 (by decide) rfl ?_
    refine wq_a 44 d82_43 rfl rfl ?_
    rw [show nI (pg_k T c) - 6 = nI (pg_k T c - 6) from pk_sub (b := 6) (by omega)]
    refine wq_v 47 [_, _, _] d82_44 rfl rfl m57 rfl rfl (Nat.le_of_ble_eq_true rfl) rfl (pk57o (k := 4) hR (fun σ44 x44 hx44 h44 => ?_))
    refine wq_s 48 d82_47 rfl rfl (Nat.le_of_ble_eq_true rfl) rfl rfl ?_
    refine wq_l 49 d82_48 rfl rfl rfl rfl ?_
    refine wq_gr (ci := 4) (j := 0) (q := 2) 52 d82_49 rfl rfl rfl rfl ?_
    refine wq_v 55 [] d82_52 rfl rfl m47 rfl rfl (Nat.le_of_ble_eq_true rfl) rfl (pk47 hK h44 (hl).1 (hl).2 (fun σ52 h52 => ?_))
    refine wq_k 58 8192 d82_55 (by decide) rfl ?_
    refine wq_s 59 d82_58 rfl rfl (Nat.le_of_ble_eq_true rfl) rfl rfl ?_
    refine pl82 (w := nI (pg_k T c)) (x := x44) hK pg_M _ _ _ (Nat.le_refl _) h52 (fun σl yl hl => ?_)
    exact pq82_85 hK hx44 hl (fun σ' h' => hQ σ' (pc_e h' (by simp only [pg_sect, pg_node, pg_seq, pg_ite, pg_tok, if_true, if_false, Bool.false_eq_true, ha]) (by simp only [pg_sect, pg_node, pg_seq, pg_ite, pg_tok, List.append_assoc, List.nil_append, List.append_nil, List.cons_append, List.singleton_append, List.length_append, List.length_cons, List.length_nil, List.length_singleton, if_true, if_false, Bool.false_eq_true, ha])))
  · -- pc 14
    refine wq_l 15 d82_14 rfl rfl rfl rfl ?_
    refine wq_k 17 7 d82_15 (by decide) rfl ?_
    refine wq_b 28 20 d82_17 rfl (by decide) rfl (fun c17 => ?_) (fun c17 => ?_)
    · -- pc 28
      have hk : pg_k T c = 6 ∨ pg_k T c = 7 ∨ pg_k T c = 8 := by first | exact Or.inl ((kq 6 (by decide)).mp c11) | exact Or.inr (Or.inl ((kq 7 (by decide)).mp c17)) | exact Or.inr (Or.inr ((kq 8 (by decide)).mp c23))
      have hl : pg_live T c ∧ T.1 c.1 ≠ 44 := by rcases hk with z | z | z <;> exact pg_kl z (by decide)
      have ha : pg_any T [6, 7, 8] c = true := by rcases hk with z | z | z <;> exact pg_any3 z (by decide)
      rw [ha] at hQ
      refine wq_l 29 d82_28 rfl rfl rfl rfl ?_
      refine wq_gr (ci := 4) (j := 1) (q := 3) 32 d82_29 rfl rfl rfl rfl ?_
      refine wq_k 33 4 d82_32 (by decide) rfl ?_
      refine wq_l 34 d82_33 rfl rfl rfl rfl ?_
      refine wq_gr (ci := 4) (j := 0) (q := 2) 37 d82_34 rfl rfl rfl rfl ?_
      refine wq_v 40 [] d82_37 rfl rfl m46 rfl rfl (Nat.le_of_ble_eq_true rfl) rfl (pk46 hK hR ?_)
      refine wq_l 41 d82_40 rfl rfl rfl rfl ?_
      refine wq_k 43 6 d82_41 (by decide) rfl ?_
      refine wq_a 44 d82_43 rfl rfl ?_
      rw [show nI (pg_k T c) - 6 = nI (pg_k T c - 6) from pk_sub (b := 6) (by omega)]
      refine wq_v 47 [_, _, _] d82_44 rfl rfl m57 rfl rfl (Nat.le_of_ble_eq_true rfl) rfl (pk57o (k := 4) hR (fun σ44 x44 hx44 h44 => ?_))
      refine wq_s 48 d82_47 rfl rfl (Nat.le_of_ble_eq_true rfl) rfl rfl ?_
      refine wq_l 49 d82_48 rfl rfl rfl rfl ?_
      refine wq_gr (ci := 4) (j := 0) (q := 2) 52 d82_49 rfl rfl rfl rfl ?_
      refine wq_v 55 [] d82_52 rfl rfl m47 rfl rfl (Nat.le_of_ble_eq_true rfl) rfl (pk47 hK h44 (hl).1 (hl).2 (fun σ52 h52 => ?_))
      refine wq_k 58 8192 d82_55 (by decide) rfl ?_
      refine wq_s 59 d82_58 rfl rfl (Nat.le_of_ble_eq_true rfl) rfl rfl ?_
      refine pl82 (w := nI (pg_k T c)) (x := x44) hK pg_M _ _ _ (Nat.le_refl _) h52 (fun σl yl hl => ?_)
      exact pq82_85 hK hx44 hl (fun σ' h' => hQ σ' (pc_e h' (by simp only [pg_sect, pg_node, pg_seq, pg_ite, pg_tok, if_true, if_false, Bool.false_eq_true, ha]) (by simp only [pg_sect, pg_node, pg_seq, pg_ite, pg_tok, List.append_assoc, List.nil_append, List.append_nil, List.cons_append, List.singleton_append, List.length_append, List.length_cons, List.length_nil, List.length_singleton, if_true, if_false, Bool.false_eq_true, ha])))
    · -- pc 20
      refine wq_l 21 d82_20 rfl rfl rfl rfl ?_
      refine wq_k 23 8 d82_21 (by decide) rfl ?_
      refine wq_b 28 26 d82_23 rfl (by decide) rfl (fun c23 => ?_) (fun c23 => ?_)
      · -- pc 28
        have hk : pg_k T c = 6 ∨ pg_k T c = 7 ∨ pg_k T c = 8 := by first | exact Or.inl ((kq 6 (by decide)).mp c11) | exact Or.inr (Or.inl ((kq 7 (by decide)).mp c17)) | exact Or.inr (Or.inr ((kq 8 (by decide)).mp c23))
        have hl : pg_live T c ∧ T.1 c.1 ≠ 44 := by rcases hk with z | z | z <;> exact pg_kl z (by decide)
        have ha : pg_any T [6, 7, 8] c = true := by rcases hk with z | z | z <;> exact pg_any3 z (by decide)
        rw [ha] at hQ
        refine wq_l 29 d82_28 rfl rfl rfl rfl ?_
        refine wq_gr (ci := 4) (j := 1) (q := 3) 32 d82_29 rfl rfl rfl rfl ?_
        refine wq_k 33 4 d82_32 (by decide) rfl ?_
        refine wq_l 34 d82_33 rfl rfl rfl rfl ?_
        refine wq_gr (ci := 4) (j := 0) (q := 2) 37 d82_34 rfl rfl rfl rfl ?_
        refine wq_v 40 [] d82_37 rfl rfl m46 rfl rfl (Nat.le_of_ble_eq_true rfl) rfl (pk46 hK hR ?_)
        refine wq_l 41 d82_40 rfl rfl rfl rfl ?_
        refine wq_k 43 6 d82_41 (by decide) rfl ?_
        refine wq_a 44 d82_43 rfl rfl ?_
        rw [show nI (pg_k T c) - 6 = nI (pg_k T c - 6) from pk_sub (b := 6) (by omega)]
        refine wq_v 47 [_, _, _] d82_44 rfl rfl m57 rfl rfl (Nat.le_of_ble_eq_true rfl) rfl (pk57o (k := 4) hR (fun σ44 x44 hx44 h44 => ?_))
        refine wq_s 48 d82_47 rfl rfl (Nat.le_of_ble_eq_true rfl) rfl rfl ?_
        refine wq_l 49 d82_48 rfl rfl rfl rfl ?_
        refine wq_gr (ci := 4) (j := 0) (q := 2) 52 d82_49 rfl rfl rfl rfl ?_
        refine wq_v 55 [] d82_52 rfl rfl m47 rfl rfl (Nat.le_of_ble_eq_true rfl) rfl (pk47 hK h44 (hl).1 (hl).2 (fun σ52 h52 => ?_))
        refine wq_k 58 8192 d82_55 (by decide) rfl ?_
        refine wq_s 59 d82_58 rfl rfl (Nat.le_of_ble_eq_true rfl) rfl rfl ?_
        refine pl82 (w := nI (pg_k T c)) (x := x44) hK pg_M _ _ _ (Nat.le_refl _) h52 (fun σl yl hl => ?_)
        exact pq82_85 hK hx44 hl (fun σ' h' => hQ σ' (pc_e h' (by simp only [pg_sect, pg_node, pg_seq, pg_ite, pg_tok, if_true, if_false, Bool.false_eq_true, ha]) (by simp only [pg_sect, pg_node, pg_seq, pg_ite, pg_tok, List.append_assoc, List.nil_append, List.append_nil, List.cons_append, List.singleton_append, List.length_append, List.length_cons, List.length_nil, List.length_singleton, if_true, if_false, Bool.false_eq_true, ha])))
      · -- pc 26
        refine wq_k 27 0 d82_26 (by decide) rfl ?_
        refine wq_ri d82_27 (rfl) ?_
        have ha : pg_any T [6, 7, 8] c = false := pg_anyn (by
          intro k hk
          simp only [List.mem_cons, List.not_mem_nil, or_false] at hk
          rcases hk with z | z | z <;> subst z <;> intro w
          · exact c11 ((kq 6 (by decide)).mpr w)
          · exact c17 ((kq 7 (by decide)).mpr w)
          · exact c23 ((kq 8 (by decide)).mpr w))
        rw [ha] at hQ
        exact hQ _ (pc_e hR (by simp only [pg_ite, pg_nil, ha, if_false, Bool.false_eq_true]; done) (by simp only [pg_ite, pg_nil, ha, if_false, Bool.false_eq_true, List.append_nil]; done))
/-! LADDERS -/
theorem pl88 {d : Nat} {T : pg_T} {n : Nat} {σ0 : pm_S} {l : List pg_N} {Q : Option Value → pm_S → Prop} {x : Int32} (hK : pc_K T n σ0) : ∀ (k : Nat) (σ : pm_S) (c : pg_C) (s : List pg_N), k ≤ 8192 → pc_R T n σ0 σ c l s → (∀ σ' (y w : Int32), pc_R T n σ0 σ' (pg_cells T k c).1 l (s ++ (pg_cells T k c).2) → pm_WP pm_Y0 (pm_call pm_Y0 (d + 4)) 4 prog_6_method_29_code none Q 189 [.ref 4, .int x, .int w, .int y] [] σ') → pm_WP pm_Y0 (pm_call pm_Y0 (d + 4)) 4 prog_6_method_29_code none Q 24 [.ref 4, .int x, .int 1, .int (nI k)] [] σ := by
  intro k
  induction k with
  | zero =>
    intro σ c s hk hR hX
    refine wq_l 25 d88_24 rfl rfl rfl rfl ?_
    refine wq_b 189 28 d88_25 rfl (by decide) rfl (fun c25 => absurd c25 (by decide)) (fun c25 => ?_)
    refine wq_l 29 d88_28 rfl rfl rfl rfl ?_
    refine wq_b 189 32 d88_29 rfl (by decide) rfl (fun c29 => ?_) (fun c29 => absurd (by decide) c29)
    exact hX _ _ _ (pc_e hR rfl (by simp only [pg_cells, pg_nil, List.append_nil]; done))
  | succ k ih =>
    intro σ c s hk hR hX
    have ek := nI_toInt (n := k + 1) (by omega)
    have kq : ∀ k, k < 100 → (nI (pg_k T c) = nI k ↔ pg_k T c = k) := fun k hk => pc_kq hK hk
    have K2 : ∀ σ', pc_R T n σ0 σ' (pg_cell T c).1 l (s ++ (pg_cell T c).2) → pm_WP pm_Y0 (pm_call pm_Y0 (d + 4)) 4 prog_6_method_29_code none Q 139 [.ref 4, .int x, .int 1, .int (nI (k + 1))] [] σ' := by
      intro σ2 hR2
      refine wq_l 140 d88_139 rfl rfl rfl rfl ?_
      refine wq_v 143 [] d88_140 rfl rfl m93 rfl rfl (Nat.le_of_ble_eq_true rfl) rfl (pp93 hK hR2 ?_)
      refine wq_s 144 d88_143 rfl rfl (Nat.le_of_ble_eq_true rfl) rfl rfl ?_
      refine wq_l 145 d88_144 rfl rfl rfl rfl ?_
      refine wq_gr (ci := 4) (j := 0) (q := 2) 148 d88_145 rfl rfl rfl rfl ?_
      refine wq_k 150 68 d88_148 (by decide) rfl ?_
      refine wq_v 153 [_] d88_150 rfl rfl m51 rfl rfl (Nat.le_of_ble_eq_true rfl) rfl (pk51 (k := 68) hK (by decide) hR2 ?_)
      refine wq_b 183 156 d88_153 rfl (by decide) rfl (fun c153 => ?_) (fun c153 => ?_)
      · -- pc 183
        have f153 := b2z c153
        refine wq_i 186 d88_183 rfl rfl rfl ?_
        refine wq_g 24 d88_186 (by decide) ?_
        rw [show nI (k + 1) + Int32.ofInt (-1) = nI k from nI_m1 k]
        first
          | exact ih _ _ _ (by omega) h178 (fun σ' y w h' => hX σ' y w (pc_e h' (by simp only [pg_cells, pg_seq, pg_ite, pg_leaf, pg_nil, if_true, if_false, Bool.false_eq_true, f153]; done) (by simp only [pg_cells, pg_seq, pg_ite, pg_leaf, pg_nil, if_true, if_false, Bool.false_eq_true, f153, List.append_assoc, List.nil_append, List.append_nil, List.cons_append, List.singleton_append, List.length_append, List.length_cons, List.length_nil, List.length_singleton]; done)))
          | (cases f26 : pg_isc T (pg_cell T c).1 with
             | true =>
               rw [show b2 true = 1 from rfl]
               exact ih _ _ _ (by omega) hR2 (fun σ' y w h' => hX σ' y w (pc_e h' (by simp only [pg_cells, pg_seq, pg_ite, pg_leaf, pg_nil, if_true, if_false, Bool.false_eq_true, f153, f26]; done) (by simp only [pg_cells, pg_seq, pg_ite, pg_leaf, pg_nil, if_true, if_false, Bool.false_eq_true, f153, f26, List.append_assoc, List.nil_append, List.append_nil, List.cons_append, List.singleton_append, List.length_append, List.length_cons, List.length_nil, List.length_singleton]; done)))
             | false =>
               rw [show b2 false = 0 from rfl]
               refine wq_l 25 d88_24 rfl rfl rfl rfl ?_
               refine wq_b 189 28 d88_25 rfl (by decide) rfl (fun _ => ?_) (fun z => absurd rfl z)
               exact hX _ _ _ (pc_e hR2 (by simp only [pg_cells, pg_seq, pg_ite, pg_leaf, pg_nil, if_true, if_false, Bool.false_eq_true, f153, f26]; done) (by simp only [pg_cells, pg_seq, pg_ite, pg_leaf, pg_nil, if_true, if_false, Bool.false_eq_true, f153, f26, List.append_assoc, List.nil_append, List.append_nil, List.cons_append, List.singleton_append, List.length_append, List.length_cons, List.length_nil, List.length_singleton]; done)))
      · -- pc 156
        have f153 := b2n c153
        refine wq_l 157 d88_156 rfl rfl rfl rfl ?_
        refine wq_gr (ci := 4) (j := 1) (q := 3) 160 d88_157 rfl rfl rfl rfl ?_
        refine wq_k 162 29 d88_160 (by decide) rfl ?_
        refine wq_l 163 d88_162 rfl rfl rfl rfl ?_
        refine wq_gr (ci := 4) (j := 0) (q := 2) 166 d88_163 rfl rfl rfl rfl ?_
        refine wq_v 169 [] d88_166 rfl rfl m46 rfl rfl (Nat.le_of_ble_eq_true rfl) rfl (pk46 hK hR2 ?_)
        refine wq_k 170 0 d88_169 (by decide) rfl ?_
        refine wq_v 173 [_, _, _] d88_170 rfl rfl m57 rfl rfl (Nat.le_of_ble_eq_true rfl) rfl (pk57 (k := 29) hR2 (fun σ170 x170 h170 => ?_))
        refine wq_a 174 d88_173 rfl rfl ?_
        refine wq_l 175 d88_174 rfl rfl rfl rfl ?_
        refine wq_gr (ci := 4) (j := 0) (q := 2) 178 d88_175 rfl rfl rfl rfl ?_
        refine wq_v 181 [] d88_178 rfl rfl m47 rfl rfl (Nat.le_of_ble_eq_true rfl) rfl (pk47 hK h170 (pg_isl f153 (by decide)).1 (pg_isl f153 (by decide)).2 (fun σ178 h178 => ?_))
        refine wq_k 182 1 d88_181 (by decide) rfl ?_
        refine wq_s 183 d88_182 rfl rfl (Nat.le_of_ble_eq_true rfl) rfl rfl ?_
        refine wq_i 186 d88_183 rfl rfl rfl ?_
        refine wq_g 24 d88_186 (by decide) ?_
        rw [show nI (k + 1) + Int32.ofInt (-1) = nI k from nI_m1 k]
        first
          | exact ih _ _ _ (by omega) h178 (fun σ' y w h' => hX σ' y w (pc_e h' (by simp only [pg_cells, pg_seq, pg_ite, pg_leaf, pg_nil, if_true, if_false, Bool.false_eq_true, f153]; done) (by simp only [pg_cells, pg_seq, pg_ite, pg_leaf, pg_nil, if_true, if_false, Bool.false_eq_true, f153, List.append_assoc, List.nil_append, List.append_nil, List.cons_append, List.singleton_append, List.length_append, List.length_cons, List.length_nil, List.length_singleton]; done)))
          | (cases f26 : pg_isc T (pg_cell T c).1 with
             | true =>
               rw [show b2 true = 1 from rfl]
               exact ih _ _ _ (by omega) hR2 (fun σ' y w h' => hX σ' y w (pc_e h' (by simp only [pg_cells, pg_seq, pg_ite, pg_leaf, pg_nil, if_true, if_false, Bool.false_eq_true, f153, f26]; done) (by simp only [pg_cells, pg_seq, pg_ite, pg_leaf, pg_nil, if_true, if_false, Bool.false_eq_true, f153, f26, List.append_assoc, List.nil_append, List.append_nil, List.cons_append, List.singleton_append, List.length_append, List.length_cons, List.length_nil, List.length_singleton]; done)))
             | false =>
               rw [show b2 false = 0 from rfl]
               refine wq_l 25 d88_24 rfl rfl rfl rfl ?_
               refine wq_b 189 28 d88_25 rfl (by decide) rfl (fun _ => ?_) (fun z => absurd rfl z)
               exact hX _ _ _ (pc_e hR2 (by simp only [pg_cells, pg_seq, pg_ite, pg_leaf, pg_nil, if_true, if_false, Bool.false_eq_true, f153, f26]; done) (by simp only [pg_cells, pg_seq, pg_ite, pg_leaf, pg_nil, if_true, if_false, Bool.false_eq_true, f153, f26, List.append_assoc, List.nil_append, List.append_nil, List.cons_append, List.singleton_append, List.length_append, List.length_cons, List.length_nil, List.length_singleton]; done)))
    refine wq_l 25 d88_24 rfl rfl rfl rfl ?_
    refine wq_b 189 28 d88_25 rfl (by decide) rfl (fun c25 => absurd c25 (by decide)) (fun c25 => ?_)
    refine wq_l 29 d88_28 rfl rfl rfl rfl ?_
    refine wq_b 189 32 d88_29 rfl (by decide) rfl (fun c29 => absurd c29 ((by simp only [i_lt, i_le, i_eq, ne_eq, Int32.reduceToInt, b2_0, b2_1, decide_eq_true_eq, decide_eq_false_iff_not, Bool.not_eq_true, Bool.not_eq_false] at * <;> omega))) (fun c29 => ?_)
    refine wq_l 33 d88_32 rfl rfl rfl rfl ?_
    refine wq_gr (ci := 4) (j := 0) (q := 2) 36 d88_33 rfl rfl rfl rfl ?_
    refine wq_v 39 [] d88_36 rfl rfl m45 rfl rfl (Nat.le_of_ble_eq_true rfl) rfl (pk45 hR ?_)
    refine wq_lsw [(52, 128), (61, 72), (62, 100)] 135 d88_39 (by decide) (List.forall_mem_cons.mpr ⟨fun e39 => ?_, List.forall_mem_cons.mpr ⟨fun e39 => ?_, List.forall_mem_cons.mpr ⟨fun e39 => ?_, fun _ h => absurd h List.not_mem_nil⟩⟩⟩) (fun e39 => ?_)
    · -- case 52
      have hk52 := (kq 52 (by decide)).mp e39
      have hlc := pg_kl hk52 (by decide)
      have i61 : pg_is T 61 c = false := pg_isn hk52 (by decide)
      have i62 : pg_is T 62 c = false := pg_isn hk52 (by decide)
      have i52 : pg_is T 52 c = true := pg_isy hk52
      refine wq_l 129 d88_128 rfl rfl rfl rfl ?_
      refine wq_v 132 [] d88_129 rfl rfl m89 rfl rfl (Nat.le_of_ble_eq_true rfl) rfl (pp89 hK hlc hR (fun σ129 h129 => ?_))
      refine wq_g 139 d88_132 (by decide) ?_
      exact K2 _ (pc_e h129 (by simp only [pg_cell, pg_ite, pg_leaf, i61, i62, i52, if_true, if_false, Bool.false_eq_true]; done) (by simp only [pg_cell, pg_ite, pg_leaf, i61, i62, i52, if_true, if_false, Bool.false_eq_true, List.append_assoc, List.nil_append, List.append_nil, List.cons_append, List.singleton_append, List.length_append, List.length_cons, List.length_nil, List.length_singleton]; done))
    · -- case 61
      have hk61 := (kq 61 (by decide)).mp e39
      have hlc := pg_kl hk61 (by decide)
      have i61 : pg_is T 61 c = true := pg_isy hk61
      have i62 : pg_is T 62 c = false := pg_isn hk61 (by decide)
      have i52 : pg_is T 52 c = false := pg_isn hk61 (by decide)
      refine wq_l 73 d88_72 rfl rfl rfl rfl ?_
      refine wq_gr (ci := 4) (j := 1) (q := 3) 76 d88_73 rfl rfl rfl rfl ?_
      refine wq_k 78 26 d88_76 (by decide) rfl ?_
      refine wq_l 79 d88_78 rfl rfl rfl rfl ?_
      refine wq_gr (ci := 4) (j := 0) (q := 2) 82 d88_79 rfl rfl rfl rfl ?_
      refine wq_v 85 [] d88_82 rfl rfl m46 rfl rfl (Nat.le_of_ble_eq_true rfl) rfl (pk46 hK hR ?_)
      refine wq_k 86 0 d88_85 (by decide) rfl ?_
      refine wq_v 89 [_, _, _] d88_86 rfl rfl m57 rfl rfl (Nat.le_of_ble_eq_true rfl) rfl (pk57 (k := 26) hR (fun σ86 x86 h86 => ?_))
      refine wq_a 90 d88_89 rfl rfl ?_
      refine wq_l 91 d88_90 rfl rfl rfl rfl ?_
      refine wq_gr (ci := 4) (j := 0) (q := 2) 94 d88_91 rfl rfl rfl rfl ?_
      refine wq_v 97 [] d88_94 rfl rfl m47 rfl rfl (Nat.le_of_ble_eq_true rfl) rfl (pk47 hK h86 (pg_kl hk61 (by decide)).1 (pg_kl hk61 (by decide)).2 (fun σ94 h94 => ?_))
      refine wq_g 139 d88_97 (by decide) ?_
      exact K2 _ (pc_e h94 (by simp only [pg_cell, pg_ite, pg_leaf, i61, i62, i52, if_true, if_false, Bool.false_eq_true]; done) (by simp only [pg_cell, pg_ite, pg_leaf, i61, i62, i52, if_true, if_false, Bool.false_eq_true, List.append_assoc, List.nil_append, List.append_nil, List.cons_append, List.singleton_append, List.length_append, List.length_cons, List.length_nil, List.length_singleton]; done))
    · -- case 62
      have hk62 := (kq 62 (by decide)).mp e39
      have hlc := pg_kl hk62 (by decide)
      have i61 : pg_is T 61 c = false := pg_isn hk62 (by decide)
      have i62 : pg_is T 62 c = true := pg_isy hk62
      have i52 : pg_is T 52 c = false := pg_isn hk62 (by decide)
      refine wq_l 101 d88_100 rfl rfl rfl rfl ?_
      refine wq_gr (ci := 4) (j := 1) (q := 3) 104 d88_101 rfl rfl rfl rfl ?_
      refine wq_k 106 27 d88_104 (by decide) rfl ?_
      refine wq_l 107 d88_106 rfl rfl rfl rfl ?_
      refine wq_gr (ci := 4) (j := 0) (q := 2) 110 d88_107 rfl rfl rfl rfl ?_
      refine wq_v 113 [] d88_110 rfl rfl m46 rfl rfl (Nat.le_of_ble_eq_true rfl) rfl (pk46 hK hR ?_)
      refine wq_k 114 0 d88_113 (by decide) rfl ?_
      refine wq_v 117 [_, _, _] d88_114 rfl rfl m57 rfl rfl (Nat.le_of_ble_eq_true rfl) rfl (pk57 (k := 27) hR (fun σ114 x114 h114 => ?_))
      refine wq_a 118 d88_117 rfl rfl ?_
      refine wq_l 119 d88_118 rfl rfl rfl rfl ?_
      refine wq_gr (ci := 4) (j := 0) (q := 2) 122 d88_119 rfl rfl rfl rfl ?_
      refine wq_v 125 [] d88_122 rfl rfl m47 rfl rfl (Nat.le_of_ble_eq_true rfl) rfl (pk47 hK h114 (pg_kl hk62 (by decide)).1 (pg_kl hk62 (by decide)).2 (fun σ122 h122 => ?_))
      refine wq_g 139 d88_125 (by decide) ?_
      exact K2 _ (pc_e h122 (by simp only [pg_cell, pg_ite, pg_leaf, i61, i62, i52, if_true, if_false, Bool.false_eq_true]; done) (by simp only [pg_cell, pg_ite, pg_leaf, i61, i62, i52, if_true, if_false, Bool.false_eq_true, List.append_assoc, List.nil_append, List.append_nil, List.cons_append, List.singleton_append, List.length_append, List.length_cons, List.length_nil, List.length_singleton]; done))
    · -- default
      have w39_52 := e39 (52, 128) (by decide)
      have w39_61 := e39 (61, 72) (by decide)
      have w39_62 := e39 (62, 100) (by decide)
      have i61 : pg_is T 61 c = false := by cases e : pg_is T 61 c; rfl; exact absurd ((kq 61 (by decide)).mpr (pg_isk e)) w39_61
      have i62 : pg_is T 62 c = false := by cases e : pg_is T 62 c; rfl; exact absurd ((kq 62 (by decide)).mpr (pg_isk e)) w39_62
      have i52 : pg_is T 52 c = false := by cases e : pg_is T 52 c; rfl; exact absurd ((kq 52 (by decide)).mpr (pg_isk e)) w39_52
      refine wq_l 136 d88_135 rfl rfl rfl rfl ?_
      refine wq_v 139 [] d88_136 rfl rfl m91 rfl rfl (Nat.le_of_ble_eq_true rfl) rfl (pp91 hK hR (fun σ136 h136 => ?_))
      exact K2 _ (pc_e h136 (by simp only [pg_cell, pg_ite, pg_leaf, i61, i62, i52, if_true, if_false, Bool.false_eq_true]; done) (by simp only [pg_cell, pg_ite, pg_leaf, i61, i62, i52, if_true, if_false, Bool.false_eq_true, List.append_assoc, List.nil_append, List.append_nil, List.cons_append, List.singleton_append, List.length_append, List.length_cons, List.length_nil, List.length_singleton]; done))
theorem pq88_189 {d : Nat} {T : pg_T} {n : Nat} {σ0 σ : pm_S} {c : pg_C} {L r : List pg_N} {k0 p0 z0 : Nat} {v0 x : Int32} {Q : Option Value → pm_S → Prop} {w y : Int32} (hK : pc_K T n σ0) (hx : L.length < 16386 → x = nI L.length) (hR : pc_R T n σ0 σ c (L ++ [(k0, p0, v0, z0)]) r) (hQ : ∀ σ', pc_R T n σ0 σ' (pg_tok (pg_exp T 57) c).1 L ((k0, p0, v0, (r ++ (pg_tok (pg_exp T 57) c).2).length + 1) :: (r ++ (pg_tok (pg_exp T 57) c).2)) → Q none σ') : pm_WP pm_Y0 (pm_call pm_Y0 (d + 4)) 4 prog_6_method_29_code none Q 189 [.ref 4, .int x, .int w, .int y] [] σ := by
  refine wq_l 190 d88_189 rfl rfl rfl rfl ?_
  refine wq_gr (ci := 4) (j := 0) (q := 2) 193 d88_190 rfl rfl rfl rfl ?_
  refine wq_k 195 57 d88_193 (by decide) rfl ?_
  refine wq_v 198 [_] d88_195 rfl rfl m49 rfl rfl (Nat.le_of_ble_eq_true rfl) rfl (pk49 (k := 57) hK (by decide) hR (fun σ195 h195 => ?_))
  refine wq_l 199 d88_198 rfl rfl rfl rfl ?_
  refine wq_gr (ci := 4) (j := 1) (q := 3) 202 d88_199 rfl rfl rfl rfl ?_
  refine wq_l 203 d88_202 rfl rfl rfl rfl ?_
  refine wq_v 206 [_] d88_203 rfl rfl m59 rfl rfl (Nat.le_of_ble_eq_true rfl) rfl (pk59 hx h195 (fun σ203 h203 => ?_))
  refine wq_rv d88_206 ?_
  exact hQ _ (pc_e h203 (by simp only [pg_tok, if_true, if_false, Bool.false_eq_true]; done) (by simp only [pg_tok, List.append_assoc, List.nil_append, List.append_nil, List.cons_append, List.singleton_append, List.length_append, List.length_cons, List.length_nil, List.length_singleton, if_true, if_false, Bool.false_eq_true]; done))
theorem pp88 {d : Nat} {T : pg_T} {n : Nat} {σ0 σ : pm_S} {c : pg_C} {l s : List pg_N} {Q : Option Value → pm_S → Prop} (hK : pc_K T n σ0) (hR : pc_R T n σ0 σ c l s) (hQ : ∀ σ', pc_R T n σ0 σ' (pg_row T c).1 l (s ++ (pg_row T c).2) → Q none σ') : pm_call pm_Y0 (d + 5) 88 [.ref 4] σ Q := by
  refine wq_m m88 (Nat.le_of_ble_eq_true rfl) (by decide) rfl ?_
  refine wq_l 1 d88_0 rfl rfl rfl rfl ?_
  refine wq_gr (ci := 4) (j := 1) (q := 3) 4 d88_1 rfl rfl rfl rfl ?_
  refine wq_k 6 24 d88_4 (by decide) rfl ?_
  refine wq_l 7 d88_6 rfl rfl rfl rfl ?_
  refine wq_gr (ci := 4) (j := 0) (q := 2) 10 d88_7 rfl rfl rfl rfl ?_
  refine wq_v 13 [] d88_10 rfl rfl m46 rfl rfl (Nat.le_of_ble_eq_true rfl) rfl (pk46 hK hR ?_)
  refine wq_k 14 0 d88_13 (by decide) rfl ?_
  refine wq_v 17 [_, _, _] d88_14 rfl rfl m57 rfl rfl (Nat.le_of_ble_eq_true rfl) rfl (pk57o (k := 24) hR (fun σ14 x14 hx14 h14 => ?_))
  refine wq_s 18 d88_17 rfl rfl (Nat.le_of_ble_eq_true rfl) rfl rfl ?_
  refine wq_k 19 1 d88_18 (by decide) rfl ?_
  refine wq_s 20 d88_19 rfl rfl (Nat.le_of_ble_eq_true rfl) rfl rfl ?_
  refine wq_k 23 8192 d88_20 (by decide) rfl ?_
  refine wq_s 24 d88_23 rfl rfl (Nat.le_of_ble_eq_true rfl) rfl rfl ?_
  refine pl88 (x := x14) hK pg_M _ _ _ (Nat.le_refl _) h14 (fun σl yl wl hl => ?_)
  exact pq88_189 hK hx14 hl (fun σ' h' => hQ σ' (pc_e h' (by simp only [pg_row, pg_node, pg_seq, pg_tok, if_true, if_false, Bool.false_eq_true]) (by simp only [pg_row, pg_node, pg_seq, pg_tok, List.append_assoc, List.nil_append, List.append_nil, List.cons_append, List.singleton_append, List.length_append, List.length_cons, List.length_nil, List.length_singleton, if_true, if_false, Bool.false_eq_true])))
theorem pl87b {d : Nat} {T : pg_T} {n : Nat} {σ0 : pm_S} {l : List pg_N} {Q : Option Value → pm_S → Prop} {x u w : Int32} (hK : pc_K T n σ0) : ∀ (k : Nat) (σ : pm_S) (c : pg_C) (s : List pg_N), k ≤ 8192 → pc_R T n σ0 σ c l s → (∀ σ' (y : Int32), pc_R T n σ0 σ' (pg_whl (pg_isc T) (pg_row T) k c).1 l (s ++ (pg_whl (pg_isc T) (pg_row T) k c).2) → pm_WP pm_Y0 (pm_call pm_Y0 (d + 5)) 4 prog_6_method_27_code none Q 101 [.ref 4, .int x, .int u, .int w, .int y] [] σ') → pm_WP pm_Y0 (pm_call pm_Y0 (d + 5)) 4 prog_6_method_27_code none Q 79 [.ref 4, .int x, .int u, .int w, .int (nI k)] [] σ := by
  intro k
  induction k with
  | zero =>
    intro σ c s hk hR hX
    refine wq_l 81 d87_79 rfl rfl rfl rfl ?_
    refine wq_b 101 84 d87_81 rfl (by decide) rfl (fun c81 => ?_) (fun c81 => absurd (by decide) c81)
    exact hX _ _ (pc_e hR rfl (by simp only [pg_whl, pg_nil, List.append_assoc, List.nil_append, List.append_nil, List.cons_append, List.singleton_append, List.length_append, List.length_cons, List.length_nil, List.length_singleton]))
  | succ k ih =>
    intro σ c s hk hR hX
    have ek := nI_toInt (n := k + 1) (by omega)
    refine wq_l 81 d87_79 rfl rfl rfl rfl ?_
    refine wq_b 101 84 d87_81 rfl (by decide) rfl (fun c81 => absurd c81 ((by simp only [i_lt, i_le, i_eq, ne_eq, Int32.reduceToInt, b2_0, b2_1, decide_eq_true_eq, decide_eq_false_iff_not, Bool.not_eq_true, Bool.not_eq_false] at * <;> omega))) (fun c81 => ?_)
    refine wq_l 85 d87_84 rfl rfl rfl rfl ?_
    refine wq_v 88 [] d87_85 rfl rfl m93 rfl rfl (Nat.le_of_ble_eq_true rfl) rfl (pp93 hK hR ?_)
    refine wq_b 101 91 d87_88 rfl (by decide) rfl (fun c88 => ?_) (fun c88 => ?_)
    · -- pc 101
      have f88 := b2z c88
      exact hX _ _ (pc_e hR (by simp only [pg_whl, pg_ite, pg_nil, if_false, Bool.false_eq_true, f88]; done) (by simp only [pg_whl, pg_ite, pg_nil, if_false, Bool.false_eq_true, f88, List.append_assoc, List.nil_append, List.append_nil, List.cons_append, List.singleton_append, List.length_append, List.length_cons, List.length_nil, List.length_singleton]; done))
    · -- pc 91
      have f88 := b2n c88
      refine wq_l 92 d87_91 rfl rfl rfl rfl ?_
      refine wq_v 95 [] d87_92 rfl rfl m88 rfl rfl (Nat.le_of_ble_eq_true rfl) rfl (pp88 hK hR (fun σ92 h92 => ?_))
      refine wq_i 98 d87_95 rfl rfl rfl ?_
      refine wq_g 79 d87_98 (by decide) ?_
      rw [show nI (k + 1) + Int32.ofInt (-1) = nI k from nI_m1 k]
      exact ih _ _ _ (by omega) h92 (fun σ' y h' => hX σ' y (pc_e h' (by simp only [pg_whl, pg_ite, pg_seq, pg_tok, if_true, f88]; done) (by simp only [pg_whl, pg_ite, pg_seq, pg_tok, if_true, f88, List.append_assoc, List.nil_append, List.append_nil, List.cons_append, List.singleton_append, List.length_append, List.length_cons, List.length_nil, List.length_singleton]; done)))
theorem pq87_101 {d : Nat} {T : pg_T} {n : Nat} {σ0 σ : pm_S} {c : pg_C} {L r : List pg_N} {k0 p0 z0 : Nat} {v0 x : Int32} {Q : Option Value → pm_S → Prop} {x1 u y : Int32} (hK : pc_K T n σ0) (hx : L.length < 16386 → x = nI L.length) (hR : pc_R T n σ0 σ c (L ++ [(k0, p0, v0, z0)]) r) (hQ : ∀ σ', pc_R T n σ0 σ' (pg_tok (pg_exp T 40) c).1 L ((k0, p0, v0, (r ++ (pg_tok (pg_exp T 40) c).2).length + 1) :: (r ++ (pg_tok (pg_exp T 40) c).2)) → pm_WP pm_Y0 (pm_call pm_Y0 (d + 5)) 4 prog_6_method_27_code none Q 118 [.ref 4, .int x1, .int u, .int x, .int y] [] σ') : pm_WP pm_Y0 (pm_call pm_Y0 (d + 5)) 4 prog_6_method_27_code none Q 101 [.ref 4, .int x1, .int u, .int x, .int y] [] σ := by
  refine wq_l 102 d87_101 rfl rfl rfl rfl ?_
  refine wq_gr (ci := 4) (j := 0) (q := 2) 105 d87_102 rfl rfl rfl rfl ?_
  refine wq_k 107 40 d87_105 (by decide) rfl ?_
  refine wq_v 110 [_] d87_107 rfl rfl m49 rfl rfl (Nat.le_of_ble_eq_true rfl) rfl (pk49 (k := 40) hK (by decide) hR (fun σ107 h107 => ?_))
  refine wq_l 111 d87_110 rfl rfl rfl rfl ?_
  refine wq_gr (ci := 4) (j := 1) (q := 3) 114 d87_111 rfl rfl rfl rfl ?_
  refine wq_l 115 d87_114 rfl rfl rfl rfl ?_
  refine wq_v 118 [_] d87_115 rfl rfl m59 rfl rfl (Nat.le_of_ble_eq_true rfl) rfl (pk59 hx h107 (fun σ115 h115 => ?_))
  exact hQ _ (pc_e h115 (by simp only [pg_tok]; done) (by simp only [pg_tok, List.append_assoc, List.nil_append, List.append_nil, List.cons_append, List.singleton_append, List.length_append, List.length_cons, List.length_nil, List.length_singleton]; done))
theorem pl87 {d : Nat} {T : pg_T} {n : Nat} {σ0 : pm_S} {l : List pg_N} {Q : Option Value → pm_S → Prop} {x : Int32} (hK : pc_K T n σ0) : ∀ (k : Nat) (σ : pm_S) (c : pg_C) (s : List pg_N) (w1 w2 : Value), k ≤ 8192 → pc_R T n σ0 σ c l s → (∀ σ' (y : Int32) (y2 y3 : Value), pc_R T n σ0 σ' (pg_whl (pg_is T 39) (pg_rung T) k c).1 l (s ++ (pg_whl (pg_is T 39) (pg_rung T) k c).2) → pm_WP pm_Y0 (pm_call pm_Y0 (d + 5)) 4 prog_6_method_27_code none Q 124 [.ref 4, .int x, .int y, y2, y3] [] σ') → pm_WP pm_Y0 (pm_call pm_Y0 (d + 5)) 4 prog_6_method_27_code none Q 29 [.ref 4, .int x, .int (nI k), w1, w2] [] σ := by
  intro k
  induction k with
  | zero =>
    intro σ c s w1 w2 hk hR hX
    refine wq_l 30 d87_29 rfl rfl rfl rfl ?_
    refine wq_b 124 33 d87_30 rfl (by decide) rfl (fun c30 => ?_) (fun c30 => absurd (by decide) c30)
    exact hX _ _ _ _ (pc_e hR rfl (by simp only [pg_whl, pg_nil, List.append_assoc, List.nil_append, List.append_nil, List.cons_append, List.singleton_append, List.length_append, List.length_cons, List.length_nil, List.length_singleton]; done))
  | succ k ih =>
    intro σ c s w1 w2 hk hR hX
    have ek := nI_toInt (n := k + 1) (by omega)
    refine wq_l 30 d87_29 rfl rfl rfl rfl ?_
    refine wq_b 124 33 d87_30 rfl (by decide) rfl (fun c30 => absurd c30 ((by simp only [i_lt, i_le, i_eq, ne_eq, Int32.reduceToInt, b2_0, b2_1, decide_eq_true_eq, decide_eq_false_iff_not, Bool.not_eq_true, Bool.not_eq_false] at * <;> omega))) (fun c30 => ?_)
    refine wq_l 34 d87_33 rfl rfl rfl rfl ?_
    refine wq_gr (ci := 4) (j := 0) (q := 2) 37 d87_34 rfl rfl rfl rfl ?_
    refine wq_k 39 39 d87_37 (by decide) rfl ?_
    refine wq_v 42 [_] d87_39 rfl rfl m51 rfl rfl (Nat.le_of_ble_eq_true rfl) rfl (pk51 (k := 39) hK (by decide) hR ?_)
    refine wq_b 124 45 d87_42 rfl (by decide) rfl (fun c42 => ?_) (fun c42 => ?_)
    · -- pc 124
      have f42 := b2z c42
      exact hX _ _ _ _ (pc_e hR (by simp only [pg_whl, pg_ite, pg_nil, if_false, Bool.false_eq_true, f42]; done) (by simp only [pg_whl, pg_ite, pg_nil, if_false, Bool.false_eq_true, f42, List.append_assoc, List.nil_append, List.append_nil, List.cons_append, List.singleton_append, List.length_append, List.length_cons, List.length_nil, List.length_singleton]; done))
    · -- pc 45
      have f42 := b2n c42
      refine wq_l 46 d87_45 rfl rfl rfl rfl ?_
      refine wq_gr (ci := 4) (j := 1) (q := 3) 49 d87_46 rfl rfl rfl rfl ?_
      refine wq_k 51 23 d87_49 (by decide) rfl ?_
      refine wq_l 52 d87_51 rfl rfl rfl rfl ?_
      refine wq_gr (ci := 4) (j := 0) (q := 2) 55 d87_52 rfl rfl rfl rfl ?_
      refine wq_v 58 [] d87_55 rfl rfl m46 rfl rfl (Nat.le_of_ble_eq_true rfl) rfl (pk46 hK hR ?_)
      refine wq_k 59 0 d87_58 (by decide) rfl ?_
      refine wq_v 62 [_, _, _] d87_59 rfl rfl m57 rfl rfl (Nat.le_of_ble_eq_true rfl) rfl (pk57o (k := 23) hR (fun σ59 x59 hx59 h59 => ?_))
      refine wq_s 63 d87_62 rfl rfl (Nat.le_of_ble_eq_true rfl) rfl rfl ?_
      refine wq_l 64 d87_63 rfl rfl rfl rfl ?_
      refine wq_gr (ci := 4) (j := 0) (q := 2) 67 d87_64 rfl rfl rfl rfl ?_
      refine wq_v 70 [] d87_67 rfl rfl m47 rfl rfl (Nat.le_of_ble_eq_true rfl) rfl (pk47 hK h59 (pg_isl f42 (by decide)).1 (pg_isl f42 (by decide)).2 (fun σ67 h67 => ?_))
      refine wq_l 71 d87_70 rfl rfl rfl rfl ?_
      refine wq_v 74 [] d87_71 rfl rfl m88 rfl rfl (Nat.le_of_ble_eq_true rfl) rfl (pp88 hK h67 (fun σ71 h71 => ?_))
      refine wq_k 77 8192 d87_74 (by decide) rfl ?_
      refine wq_s 79 d87_77 rfl rfl (Nat.le_of_ble_eq_true rfl) rfl rfl ?_
      refine pl87b (u := _) (w := x59) hK pg_M _ _ _ (Nat.le_refl _) h71 (fun σl yl hl => ?_)
      refine pq87_101 hK hx59 hl (fun σ118 h118 => ?_)
      refine wq_i 121 d87_118 rfl rfl rfl ?_
      refine wq_g 29 d87_121 (by decide) ?_
      rw [show nI (k + 1) + Int32.ofInt (-1) = nI k from nI_m1 k]
      exact ih _ _ _ _ _ (by omega) (pc_e h118 rfl (List.append_assoc _ _ _)) (fun σ' y y2 y3 h' => hX σ' y y2 y3 (pc_e h' (by simp only [pg_whl, pg_ite, pg_seq, pg_tok, pg_rung, pg_node, if_true, f42]; done) (by simp only [pg_whl, pg_ite, pg_seq, pg_tok, pg_rung, pg_node, if_true, f42, List.append_assoc, List.nil_append, List.append_nil, List.cons_append, List.singleton_append, List.length_append, List.length_cons, List.length_nil, List.length_singleton]; done)))
theorem pq87_124 {d : Nat} {T : pg_T} {n : Nat} {σ0 σ : pm_S} {c : pg_C} {L r : List pg_N} {k0 p0 z0 : Nat} {v0 x : Int32} {Q : Option Value → pm_S → Prop} {y : Int32} {w1 w2 : Value} (hK : pc_K T n σ0) (hx : L.length < 16386 → x = nI L.length) (hR : pc_R T n σ0 σ c (L ++ [(k0, p0, v0, z0)]) r) (hQ : ∀ σ', pc_R T n σ0 σ' (pg_tok (pg_exp T 38) c).1 L ((k0, p0, v0, (r ++ (pg_tok (pg_exp T 38) c).2).length + 1) :: (r ++ (pg_tok (pg_exp T 38) c).2)) → Q none σ') : pm_WP pm_Y0 (pm_call pm_Y0 (d + 5)) 4 prog_6_method_27_code none Q 124 [.ref 4, .int x, .int y, w1, w2] [] σ := by
  refine wq_l 125 d87_124 rfl rfl rfl rfl ?_
  refine wq_gr (ci := 4) (j := 0) (q := 2) 128 d87_125 rfl rfl rfl rfl ?_
  refine wq_k 130 38 d87_128 (by decide) rfl ?_
  refine wq_v 133 [_] d87_130 rfl rfl m49 rfl rfl (Nat.le_of_ble_eq_true rfl) rfl (pk49 (k := 38) hK (by decide) hR (fun σ130 h130 => ?_))
  refine wq_l 134 d87_133 rfl rfl rfl rfl ?_
  refine wq_gr (ci := 4) (j := 1) (q := 3) 137 d87_134 rfl rfl rfl rfl ?_
  refine wq_l 138 d87_137 rfl rfl rfl rfl ?_
  refine wq_v 141 [_] d87_138 rfl rfl m59 rfl rfl (Nat.le_of_ble_eq_true rfl) rfl (pk59 hx h130 (fun σ138 h138 => ?_))
  refine wq_rv d87_141 ?_
  exact hQ _ (pc_e h138 (by simp only [pg_tok, if_true, if_false, Bool.false_eq_true]; done) (by simp only [pg_tok, List.append_assoc, List.nil_append, List.append_nil, List.cons_append, List.singleton_append, List.length_append, List.length_cons, List.length_nil, List.length_singleton, if_true, if_false, Bool.false_eq_true]; done))
theorem pp87 {d : Nat} {T : pg_T} {n : Nat} {σ0 σ : pm_S} {c : pg_C} {l s : List pg_N} {Q : Option Value → pm_S → Prop} (hK : pc_K T n σ0) (hl : pg_live T c ∧ T.1 c.1 ≠ 44) (hR : pc_R T n σ0 σ c l s) (hQ : ∀ σ', pc_R T n σ0 σ' (pg_ladd T c).1 l (s ++ (pg_ladd T c).2) → Q none σ') : pm_call pm_Y0 (d + 6) 87 [.ref 4] σ Q := by
  refine wq_m m87 (Nat.le_of_ble_eq_true rfl) (by decide) rfl ?_
  refine wq_l 1 d87_0 rfl rfl rfl rfl ?_
  refine wq_gr (ci := 4) (j := 1) (q := 3) 4 d87_1 rfl rfl rfl rfl ?_
  refine wq_k 6 22 d87_4 (by decide) rfl ?_
  refine wq_l 7 d87_6 rfl rfl rfl rfl ?_
  refine wq_gr (ci := 4) (j := 0) (q := 2) 10 d87_7 rfl rfl rfl rfl ?_
  refine wq_v 13 [] d87_10 rfl rfl m46 rfl rfl (Nat.le_of_ble_eq_true rfl) rfl (pk46 hK hR ?_)
  refine wq_k 14 0 d87_13 (by decide) rfl ?_
  refine wq_v 17 [_, _, _] d87_14 rfl rfl m57 rfl rfl (Nat.le_of_ble_eq_true rfl) rfl (pk57o (k := 22) hR (fun σ14 x14 hx14 h14 => ?_))
  refine wq_s 18 d87_17 rfl rfl (Nat.le_of_ble_eq_true rfl) rfl rfl ?_
  refine wq_l 19 d87_18 rfl rfl rfl rfl ?_
  refine wq_gr (ci := 4) (j := 0) (q := 2) 22 d87_19 rfl rfl rfl rfl ?_
  refine wq_v 25 [] d87_22 rfl rfl m47 rfl rfl (Nat.le_of_ble_eq_true rfl) rfl (pk47 hK h14 (hl).1 (hl).2 (fun σ22 h22 => ?_))
  refine wq_k 28 8192 d87_25 (by decide) rfl ?_
  refine wq_s 29 d87_28 rfl rfl (Nat.le_of_ble_eq_true rfl) rfl rfl ?_
  refine pl87 (x := x14) hK pg_M _ _ _ _ _ (Nat.le_refl _) h22 (fun σl yl y2 y3 hl => ?_)
  exact pq87_124 hK hx14 hl (fun σ' h' => hQ σ' (pc_e h' (by simp only [pg_ladd, pg_node, pg_seq, pg_tok, if_true, if_false, Bool.false_eq_true]) (by simp only [pg_ladd, pg_node, pg_seq, pg_tok, List.append_assoc, List.nil_append, List.append_nil, List.cons_append, List.singleton_append, List.length_append, List.length_cons, List.length_nil, List.length_singleton, if_true, if_false, Bool.false_eq_true])))
