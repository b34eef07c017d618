theorem d103_0 : decode prog_6_method_15_code 0 = .ok (.aload_n 0, 1) := by decide +kernel
theorem d103_1 : decode prog_6_method_15_code 1 = .ok (.getfield 15, 3) := by decide +kernel
theorem d103_4 : decode prog_6_method_15_code 4 = .ok (.bipush 12, 2) := by decide +kernel
theorem d103_6 : decode prog_6_method_15_code 6 = .ok (.iconst 0, 1) := by decide +kernel
theorem d103_7 : decode prog_6_method_15_code 7 = .ok (.iconst 0, 1) := by decide +kernel
theorem d103_8 : decode prog_6_method_15_code 8 = .ok (.invokevirtual 34, 3) := by decide +kernel
theorem d103_11 : decode prog_6_method_15_code 11 = .ok (.istore_n 1, 1) := by decide +kernel
theorem d103_12 : decode prog_6_method_15_code 12 = .ok (.aload_n 0, 1) := by decide +kernel
theorem d103_13 : decode prog_6_method_15_code 13 = .ok (.getfield 9, 3) := by decide +kernel
theorem d103_16 : decode prog_6_method_15_code 16 = .ok (.bipush 54, 2) := by decide +kernel
theorem d103_18 : decode prog_6_method_15_code 18 = .ok (.invokevirtual 114, 3) := by decide +kernel
theorem d103_21 : decode prog_6_method_15_code 21 = .ok (.ifCond .eq 11, 3) := by decide +kernel
theorem d103_24 : decode prog_6_method_15_code 24 = .ok (.aload_n 0, 1) := by decide +kernel
theorem d103_25 : decode prog_6_method_15_code 25 = .ok (.iconst (-1), 1) := by decide +kernel
theorem d103_26 : decode prog_6_method_15_code 26 = .ok (.invokevirtual 132, 3) := by decide +kernel
theorem d103_29 : decode prog_6_method_15_code 29 = .ok (.goto 7, 3) := by decide +kernel
theorem d103_32 : decode prog_6_method_15_code 32 = .ok (.aload_n 0, 1) := by decide +kernel
theorem d103_33 : decode prog_6_method_15_code 33 = .ok (.invokevirtual 96, 3) := by decide +kernel
theorem d103_36 : decode prog_6_method_15_code 36 = .ok (.aload_n 0, 1) := by decide +kernel
theorem d103_37 : decode prog_6_method_15_code 37 = .ok (.getfield 15, 3) := by decide +kernel
theorem d103_40 : decode prog_6_method_15_code 40 = .ok (.iload_n 1, 1) := by decide +kernel
theorem d103_41 : decode prog_6_method_15_code 41 = .ok (.aload_n 0, 1) := by decide +kernel
theorem d103_42 : decode prog_6_method_15_code 42 = .ok (.getfield 9, 3) := by decide +kernel
theorem d103_45 : decode prog_6_method_15_code 45 = .ok (.invokevirtual 65, 3) := by decide +kernel
theorem d103_48 : decode prog_6_method_15_code 48 = .ok (.invokevirtual 135, 3) := by decide +kernel
theorem d103_51 : decode prog_6_method_15_code 51 = .ok (.aload_n 0, 1) := by decide +kernel
theorem d103_52 : decode prog_6_method_15_code 52 = .ok (.getfield 9, 3) := by decide +kernel
theorem d103_55 : decode prog_6_method_15_code 55 = .ok (.bipush 47, 2) := by decide +kernel
theorem d103_57 : decode prog_6_method_15_code 57 = .ok (.invokevirtual 78, 3) := by decide +kernel
theorem d103_60 : decode prog_6_method_15_code 60 = .ok (.aload_n 0, 1) := by decide +kernel
theorem d103_61 : decode prog_6_method_15_code 61 = .ok (.iconst (-1), 1) := by decide +kernel
theorem d103_62 : decode prog_6_method_15_code 62 = .ok (.invokevirtual 138, 3) := by decide +kernel
theorem d103_65 : decode prog_6_method_15_code 65 = .ok (.aload_n 0, 1) := by decide +kernel
theorem d103_66 : decode prog_6_method_15_code 66 = .ok (.getfield 15, 3) := by decide +kernel
theorem d103_69 : decode prog_6_method_15_code 69 = .ok (.iload_n 1, 1) := by decide +kernel
theorem d103_70 : decode prog_6_method_15_code 70 = .ok (.invokevirtual 42, 3) := by decide +kernel
theorem d103_73 : decode prog_6_method_15_code 73 = .ok (.return_, 1) := by decide +kernel
theorem m103 : pm_m 103 = some (⟨"TypeRules$Parser", "readAssignment", "()V"⟩, prog_6_method_15_code, 2, none, 4, 0, 5) := rfl
theorem d96_0 : decode prog_6_method_16_code 0 = .ok (.aload_n 0, 1) := by decide +kernel
theorem d96_1 : decode prog_6_method_16_code 1 = .ok (.getfield 15, 3) := by decide +kernel
theorem d96_4 : decode prog_6_method_16_code 4 = .ok (.bipush 13, 2) := by decide +kernel
theorem d96_6 : decode prog_6_method_16_code 6 = .ok (.aload_n 0, 1) := by decide +kernel
theorem d96_7 : decode prog_6_method_16_code 7 = .ok (.getfield 9, 3) := by decide +kernel
theorem d96_10 : decode prog_6_method_16_code 10 = .ok (.invokevirtual 65, 3) := by decide +kernel
theorem d96_13 : decode prog_6_method_16_code 13 = .ok (.aload_n 0, 1) := by decide +kernel
theorem d96_14 : decode prog_6_method_16_code 14 = .ok (.getfield 9, 3) := by decide +kernel
theorem d96_17 : decode prog_6_method_16_code 17 = .ok (.invokevirtual 71, 3) := by decide +kernel
theorem d96_20 : decode prog_6_method_16_code 20 = .ok (.invokevirtual 34, 3) := by decide +kernel
theorem d96_23 : decode prog_6_method_16_code 23 = .ok (.istore_n 1, 1) := by decide +kernel
theorem d96_24 : decode prog_6_method_16_code 24 = .ok (.aload_n 0, 1) := by decide +kernel
theorem d96_25 : decode prog_6_method_16_code 25 = .ok (.getfield 9, 3) := by decide +kernel
theorem d96_28 : decode prog_6_method_16_code 28 = .ok (.invokevirtual 68, 3) := by decide +kernel
theorem d96_31 : decode prog_6_method_16_code 31 = .ok (.aload_n 0, 1) := by decide +kernel
theorem d96_32 : decode prog_6_method_16_code 32 = .ok (.invokevirtual 141, 3) := by decide +kernel
theorem d96_35 : decode prog_6_method_16_code 35 = .ok (.aload_n 0, 1) := by decide +kernel
theorem d96_36 : decode prog_6_method_16_code 36 = .ok (.getfield 9, 3) := by decide +kernel
theorem d96_39 : decode prog_6_method_16_code 39 = .ok (.bipush 53, 2) := by decide +kernel
theorem d96_41 : decode prog_6_method_16_code 41 = .ok (.invokevirtual 48, 3) := by decide +kernel
theorem d96_44 : decode prog_6_method_16_code 44 = .ok (.ifCond .ne 7, 3) := by decide +kernel
theorem d96_47 : decode prog_6_method_16_code 47 = .ok (.iconst 1, 1) := by decide +kernel
theorem d96_48 : decode prog_6_method_16_code 48 = .ok (.goto 4, 3) := by decide +kernel
theorem d96_51 : decode prog_6_method_16_code 51 = .ok (.iconst 0, 1) := by decide +kernel
theorem d96_52 : decode prog_6_method_16_code 52 = .ok (.istore_n 2, 1) := by decide +kernel
theorem d96_53 : decode prog_6_method_16_code 53 = .ok (.sipush 8192, 3) := by decide +kernel
theorem d96_56 : decode prog_6_method_16_code 56 = .ok (.istore_n 3, 1) := by decide +kernel
theorem d96_57 : decode prog_6_method_16_code 57 = .ok (.iload_n 2, 1) := by decide +kernel
theorem d96_58 : decode prog_6_method_16_code 58 = .ok (.ifCond .eq 91, 3) := by decide +kernel
theorem d96_61 : decode prog_6_method_16_code 61 = .ok (.iload_n 3, 1) := by decide +kernel
theorem d96_62 : decode prog_6_method_16_code 62 = .ok (.ifCond .le 87, 3) := by decide +kernel
theorem d96_65 : decode prog_6_method_16_code 65 = .ok (.aload_n 0, 1) := by decide +kernel
theorem d96_66 : decode prog_6_method_16_code 66 = .ok (.getfield 15, 3) := by decide +kernel
theorem d96_69 : decode prog_6_method_16_code 69 = .ok (.bipush 14, 2) := by decide +kernel
theorem d96_71 : decode prog_6_method_16_code 71 = .ok (.aload_n 0, 1) := by decide +kernel
theorem d96_72 : decode prog_6_method_16_code 72 = .ok (.getfield 9, 3) := by decide +kernel
theorem d96_75 : decode prog_6_method_16_code 75 = .ok (.invokevirtual 65, 3) := by decide +kernel
theorem d96_78 : decode prog_6_method_16_code 78 = .ok (.aload_n 0, 1) := by decide +kernel
theorem d96_79 : decode prog_6_method_16_code 79 = .ok (.getfield 9, 3) := by decide +kernel
theorem d96_82 : decode prog_6_method_16_code 82 = .ok (.invokevirtual 71, 3) := by decide +kernel
theorem d96_85 : decode prog_6_method_16_code 85 = .ok (.invokevirtual 34, 3) := by decide +kernel
theorem d96_88 : decode prog_6_method_16_code 88 = .ok (.istore 4, 2) := by decide +kernel
theorem d96_90 : decode prog_6_method_16_code 90 = .ok (.aload_n 0, 1) := by decide +kernel
theorem d96_91 : decode prog_6_method_16_code 91 = .ok (.getfield 9, 3) := by decide +kernel
theorem d96_94 : decode prog_6_method_16_code 94 = .ok (.bipush 41, 2) := by decide +kernel
theorem d96_96 : decode prog_6_method_16_code 96 = .ok (.invokevirtual 78, 3) := by decide +kernel
theorem d96_99 : decode prog_6_method_16_code 99 = .ok (.aload_n 0, 1) := by decide +kernel
theorem d96_100 : decode prog_6_method_16_code 100 = .ok (.getfield 9, 3) := by decide +kernel
theorem d96_103 : decode prog_6_method_16_code 103 = .ok (.bipush 47, 2) := by decide +kernel
theorem d96_105 : decode prog_6_method_16_code 105 = .ok (.invokevirtual 78, 3) := by decide +kernel
theorem d96_108 : decode prog_6_method_16_code 108 = .ok (.aload_n 0, 1) := by decide +kernel
theorem d96_109 : decode prog_6_method_16_code 109 = .ok (.iconst (-1), 1) := by decide +kernel
theorem d96_110 : decode prog_6_method_16_code 110 = .ok (.invokevirtual 138, 3) := by decide +kernel
theorem d96_113 : decode prog_6_method_16_code 113 = .ok (.aload_n 0, 1) := by decide +kernel
theorem d96_114 : decode prog_6_method_16_code 114 = .ok (.getfield 15, 3) := by decide +kernel
theorem d96_117 : decode prog_6_method_16_code 117 = .ok (.iload 4, 2) := by decide +kernel
theorem d96_119 : decode prog_6_method_16_code 119 = .ok (.invokevirtual 42, 3) := by decide +kernel
theorem d96_122 : decode prog_6_method_16_code 122 = .ok (.aload_n 0, 1) := by decide +kernel
theorem d96_123 : decode prog_6_method_16_code 123 = .ok (.getfield 9, 3) := by decide +kernel
theorem d96_126 : decode prog_6_method_16_code 126 = .ok (.bipush 56, 2) := by decide +kernel
theorem d96_128 : decode prog_6_method_16_code 128 = .ok (.invokevirtual 48, 3) := by decide +kernel
theorem d96_131 : decode prog_6_method_16_code 131 = .ok (.istore_n 2, 1) := by decide +kernel
theorem d96_132 : decode prog_6_method_16_code 132 = .ok (.iload_n 2, 1) := by decide +kernel
theorem d96_133 : decode prog_6_method_16_code 133 = .ok (.ifCond .eq 10, 3) := by decide +kernel
theorem d96_136 : decode prog_6_method_16_code 136 = .ok (.aload_n 0, 1) := by decide +kernel
theorem d96_137 : decode prog_6_method_16_code 137 = .ok (.getfield 9, 3) := by decide +kernel
theorem d96_140 : decode prog_6_method_16_code 140 = .ok (.invokevirtual 68, 3) := by decide +kernel
theorem d96_143 : decode prog_6_method_16_code 143 = .ok (.iinc 3 (-1), 3) := by decide +kernel
theorem d96_146 : decode prog_6_method_16_code 146 = .ok (.goto (-89), 3) := by decide +kernel
theorem d96_149 : decode prog_6_method_16_code 149 = .ok (.aload_n 0, 1) := by decide +kernel
theorem d96_150 : decode prog_6_method_16_code 150 = .ok (.dup, 1) := by decide +kernel
theorem d96_151 : decode prog_6_method_16_code 151 = .ok (.getfield 19, 3) := by decide +kernel
theorem d96_154 : decode prog_6_method_16_code 154 = .ok (.iconst 1, 1) := by decide +kernel
theorem d96_155 : decode prog_6_method_16_code 155 = .ok (.isub, 1) := by decide +kernel
theorem d96_156 : decode prog_6_method_16_code 156 = .ok (.putfield 19, 3) := by decide +kernel
theorem d96_159 : decode prog_6_method_16_code 159 = .ok (.aload_n 0, 1) := by decide +kernel
theorem d96_160 : decode prog_6_method_16_code 160 = .ok (.getfield 9, 3) := by decide +kernel
theorem d96_163 : decode prog_6_method_16_code 163 = .ok (.bipush 53, 2) := by decide +kernel
theorem d96_165 : decode prog_6_method_16_code 165 = .ok (.invokevirtual 78, 3) := by decide +kernel
theorem d96_168 : decode prog_6_method_16_code 168 = .ok (.aload_n 0, 1) := by decide +kernel
theorem d96_169 : decode prog_6_method_16_code 169 = .ok (.getfield 15, 3) := by decide +kernel
theorem d96_172 : decode prog_6_method_16_code 172 = .ok (.iload_n 1, 1) := by decide +kernel
theorem d96_173 : decode prog_6_method_16_code 173 = .ok (.invokevirtual 42, 3) := by decide +kernel
theorem d96_176 : decode prog_6_method_16_code 176 = .ok (.return_, 1) := by decide +kernel
theorem m96 : pm_m 96 = some (⟨"TypeRules$Parser", "readInvocation", "()V"⟩, prog_6_method_16_code, 5, none, 4, 0, 5) := rfl
theorem d104_0 : decode prog_6_method_17_code 0 = .ok (.aload_n 0, 1) := by decide +kernel
theorem d104_1 : decode prog_6_method_17_code 1 = .ok (.getfield 15, 3) := by decide +kernel
theorem d104_4 : decode prog_6_method_17_code 4 = .ok (.bipush 15, 2) := by decide +kernel
theorem d104_6 : decode prog_6_method_17_code 6 = .ok (.aload_n 0, 1) := by decide +kernel
theorem d104_7 : decode prog_6_method_17_code 7 = .ok (.getfield 9, 3) := by decide +kernel
theorem d104_10 : decode prog_6_method_17_code 10 = .ok (.invokevirtual 65, 3) := by decide +kernel
theorem d104_13 : decode prog_6_method_17_code 13 = .ok (.iconst 0, 1) := by decide +kernel
theorem d104_14 : decode prog_6_method_17_code 14 = .ok (.invokevirtual 34, 3) := by decide +kernel
theorem d104_17 : decode prog_6_method_17_code 17 = .ok (.istore_n 1, 1) := by decide +kernel
theorem d104_18 : decode prog_6_method_17_code 18 = .ok (.aload_n 0, 1) := by decide +kernel
theorem d104_19 : decode prog_6_method_17_code 19 = .ok (.invokevirtual 141, 3) := by decide +kernel
theorem d104_22 : decode prog_6_method_17_code 22 = .ok (.aload_n 0, 1) := by decide +kernel
theorem d104_23 : decode prog_6_method_17_code 23 = .ok (.iconst (-1), 1) := by decide +kernel
theorem d104_24 : decode prog_6_method_17_code 24 = .ok (.invokevirtual 138, 3) := by decide +kernel
theorem d104_27 : decode prog_6_method_17_code 27 = .ok (.aload_n 0, 1) := by decide +kernel
theorem d104_28 : decode prog_6_method_17_code 28 = .ok (.getfield 9, 3) := by decide +kernel
theorem d104_31 : decode prog_6_method_17_code 31 = .ok (.bipush 17, 2) := by decide +kernel
theorem d104_33 : decode prog_6_method_17_code 33 = .ok (.invokevirtual 78, 3) := by decide +kernel
theorem d104_36 : decode prog_6_method_17_code 36 = .ok (.aload_n 0, 1) := by decide +kernel
theorem d104_37 : decode prog_6_method_17_code 37 = .ok (.invokevirtual 90, 3) := by decide +kernel
theorem d104_40 : decode prog_6_method_17_code 40 = .ok (.sipush 8192, 3) := by decide +kernel
theorem d104_43 : decode prog_6_method_17_code 43 = .ok (.istore_n 2, 1) := by decide +kernel
theorem d104_44 : decode prog_6_method_17_code 44 = .ok (.iload_n 2, 1) := by decide +kernel
theorem d104_45 : decode prog_6_method_17_code 45 = .ok (.ifCond .le 46, 3) := by decide +kernel
theorem d104_48 : decode prog_6_method_17_code 48 = .ok (.aload_n 0, 1) := by decide +kernel
theorem d104_49 : decode prog_6_method_17_code 49 = .ok (.getfield 9, 3) := by decide +kernel
theorem d104_52 : decode prog_6_method_17_code 52 = .ok (.bipush 18, 2) := by decide +kernel
theorem d104_54 : decode prog_6_method_17_code 54 = .ok (.invokevirtual 48, 3) := by decide +kernel
theorem d104_57 : decode prog_6_method_17_code 57 = .ok (.ifCond .eq 34, 3) := by decide +kernel
theorem d104_60 : decode prog_6_method_17_code 60 = .ok (.aload_n 0, 1) := by decide +kernel
theorem d104_61 : decode prog_6_method_17_code 61 = .ok (.getfield 9, 3) := by decide +kernel
theorem d104_64 : decode prog_6_method_17_code 64 = .ok (.invokevirtual 68, 3) := by decide +kernel
theorem d104_67 : decode prog_6_method_17_code 67 = .ok (.aload_n 0, 1) := by decide +kernel
theorem d104_68 : decode prog_6_method_17_code 68 = .ok (.iconst (-1), 1) := by decide +kernel
theorem d104_69 : decode prog_6_method_17_code 69 = .ok (.invokevirtual 138, 3) := by decide +kernel
theorem d104_72 : decode prog_6_method_17_code 72 = .ok (.aload_n 0, 1) := by decide +kernel
theorem d104_73 : decode prog_6_method_17_code 73 = .ok (.getfield 9, 3) := by decide +kernel
theorem d104_76 : decode prog_6_method_17_code 76 = .ok (.bipush 17, 2) := by decide +kernel
theorem d104_78 : decode prog_6_method_17_code 78 = .ok (.invokevirtual 78, 3) := by decide +kernel
theorem d104_81 : decode prog_6_method_17_code 81 = .ok (.aload_n 0, 1) := by decide +kernel
theorem d104_82 : decode prog_6_method_17_code 82 = .ok (.invokevirtual 90, 3) := by decide +kernel
theorem d104_85 : decode prog_6_method_17_code 85 = .ok (.iinc 2 (-1), 3) := by decide +kernel
theorem d104_88 : decode prog_6_method_17_code 88 = .ok (.goto (-44), 3) := by decide +kernel
theorem d104_91 : decode prog_6_method_17_code 91 = .ok (.aload_n 0, 1) := by decide +kernel
theorem d104_92 : decode prog_6_method_17_code 92 = .ok (.getfield 9, 3) := by decide +kernel
theorem d104_95 : decode prog_6_method_17_code 95 = .ok (.bipush 19, 2) := by decide +kernel
theorem d104_97 : decode prog_6_method_17_code 97 = .ok (.invokevirtual 48, 3) := by decide +kernel
theorem d104_100 : decode prog_6_method_17_code 100 = .ok (.ifCond .eq 14, 3) := by decide +kernel
theorem d104_103 : decode prog_6_method_17_code 103 = .ok (.aload_n 0, 1) := by decide +kernel
theorem d104_104 : decode prog_6_method_17_code 104 = .ok (.getfield 9, 3) := by decide +kernel
theorem d104_107 : decode prog_6_method_17_code 107 = .ok (.invokevirtual 68, 3) := by decide +kernel
theorem d104_110 : decode prog_6_method_17_code 110 = .ok (.aload_n 0, 1) := by decide +kernel
theorem d104_111 : decode prog_6_method_17_code 111 = .ok (.invokevirtual 90, 3) := by decide +kernel
theorem d104_114 : decode prog_6_method_17_code 114 = .ok (.aload_n 0, 1) := by decide +kernel
theorem d104_115 : decode prog_6_method_17_code 115 = .ok (.getfield 9, 3) := by decide +kernel
theorem d104_118 : decode prog_6_method_17_code 118 = .ok (.bipush 20, 2) := by decide +kernel
theorem d104_120 : decode prog_6_method_17_code 120 = .ok (.invokevirtual 78, 3) := by decide +kernel
theorem d104_123 : decode prog_6_method_17_code 123 = .ok (.aload_n 0, 1) := by decide +kernel
theorem d104_124 : decode prog_6_method_17_code 124 = .ok (.dup, 1) := by decide +kernel
theorem d104_125 : decode prog_6_method_17_code 125 = .ok (.getfield 19, 3) := by decide +kernel
theorem d104_128 : decode prog_6_method_17_code 128 = .ok (.iconst 1, 1) := by decide +kernel
theorem d104_129 : decode prog_6_method_17_code 129 = .ok (.isub, 1) := by decide +kernel
theorem d104_130 : decode prog_6_method_17_code 130 = .ok (.putfield 19, 3) := by decide +kernel
theorem d104_133 : decode prog_6_method_17_code 133 = .ok (.aload_n 0, 1) := by decide +kernel
theorem d104_134 : decode prog_6_method_17_code 134 = .ok (.getfield 15, 3) := by decide +kernel
theorem d104_137 : decode prog_6_method_17_code 137 = .ok (.iload_n 1, 1) := by decide +kernel
theorem d104_138 : decode prog_6_method_17_code 138 = .ok (.invokevirtual 42, 3) := by decide +kernel
theorem d104_141 : decode prog_6_method_17_code 141 = .ok (.return_, 1) := by decide +kernel
theorem m104 : pm_m 104 = some (⟨"TypeRules$Parser", "readIf", "()V"⟩, prog_6_method_17_code, 3, none, 4, 0, 5) := rfl
theorem d105_0 : decode prog_6_method_18_code 0 = .ok (.aload_n 0, 1) := by decide +kernel
theorem d105_1 : decode prog_6_method_18_code 1 = .ok (.getfield 15, 3) := by decide +kernel
theorem d105_4 : decode prog_6_method_18_code 4 = .ok (.bipush 16, 2) := by decide +kernel
theorem d105_6 : decode prog_6_method_18_code 6 = .ok (.aload_n 0, 1) := by decide +kernel
theorem d105_7 : decode prog_6_method_18_code 7 = .ok (.getfield 9, 3) := by decide +kernel
theorem d105_10 : decode prog_6_method_18_code 10 = .ok (.invokevirtual 65, 3) := by decide +kernel
theorem d105_13 : decode prog_6_method_18_code 13 = .ok (.iconst 0, 1) := by decide +kernel
theorem d105_14 : decode prog_6_method_18_code 14 = .ok (.invokevirtual 34, 3) := by decide +kernel
theorem d105_17 : decode prog_6_method_18_code 17 = .ok (.istore_n 1, 1) := by decide +kernel
theorem d105_18 : decode prog_6_method_18_code 18 = .ok (.aload_n 0, 1) := by decide +kernel
theorem d105_19 : decode prog_6_method_18_code 19 = .ok (.invokevirtual 141, 3) := by decide +kernel
theorem d105_22 : decode prog_6_method_18_code 22 = .ok (.aload_n 0, 1) := by decide +kernel
theorem d105_23 : decode prog_6_method_18_code 23 = .ok (.iconst (-1), 1) := by decide +kernel
theorem d105_24 : decode prog_6_method_18_code 24 = .ok (.invokevirtual 138, 3) := by decide +kernel
theorem d105_27 : decode prog_6_method_18_code 27 = .ok (.aload_n 0, 1) := by decide +kernel
theorem d105_28 : decode prog_6_method_18_code 28 = .ok (.getfield 9, 3) := by decide +kernel
theorem d105_31 : decode prog_6_method_18_code 31 = .ok (.bipush 15, 2) := by decide +kernel
theorem d105_33 : decode prog_6_method_18_code 33 = .ok (.invokevirtual 78, 3) := by decide +kernel
theorem d105_36 : decode prog_6_method_18_code 36 = .ok (.sipush 8192, 3) := by decide +kernel
theorem d105_39 : decode prog_6_method_18_code 39 = .ok (.istore_n 2, 1) := by decide +kernel
theorem d105_40 : decode prog_6_method_18_code 40 = .ok (.iload_n 2, 1) := by decide +kernel
theorem d105_41 : decode prog_6_method_18_code 41 = .ok (.ifCond .le 50, 3) := by decide +kernel
theorem d105_44 : decode prog_6_method_18_code 44 = .ok (.aload_n 0, 1) := by decide +kernel
theorem d105_45 : decode prog_6_method_18_code 45 = .ok (.invokevirtual 144, 3) := by decide +kernel
theorem d105_48 : decode prog_6_method_18_code 48 = .ok (.ifCond .eq 43, 3) := by decide +kernel
theorem d105_51 : decode prog_6_method_18_code 51 = .ok (.aload_n 0, 1) := by decide +kernel
theorem d105_52 : decode prog_6_method_18_code 52 = .ok (.getfield 15, 3) := by decide +kernel
theorem d105_55 : decode prog_6_method_18_code 55 = .ok (.bipush 17, 2) := by decide +kernel
theorem d105_57 : decode prog_6_method_18_code 57 = .ok (.aload_n 0, 1) := by decide +kernel
theorem d105_58 : decode prog_6_method_18_code 58 = .ok (.getfield 9, 3) := by decide +kernel
theorem d105_61 : decode prog_6_method_18_code 61 = .ok (.invokevirtual 65, 3) := by decide +kernel
theorem d105_64 : decode prog_6_method_18_code 64 = .ok (.iconst 0, 1) := by decide +kernel
theorem d105_65 : decode prog_6_method_18_code 65 = .ok (.invokevirtual 34, 3) := by decide +kernel
theorem d105_68 : decode prog_6_method_18_code 68 = .ok (.istore_n 3, 1) := by decide +kernel
theorem d105_69 : decode prog_6_method_18_code 69 = .ok (.aload_n 0, 1) := by decide +kernel
theorem d105_70 : decode prog_6_method_18_code 70 = .ok (.invokevirtual 147, 3) := by decide +kernel
theorem d105_73 : decode prog_6_method_18_code 73 = .ok (.aload_n 0, 1) := by decide +kernel
theorem d105_74 : decode prog_6_method_18_code 74 = .ok (.invokevirtual 90, 3) := by decide +kernel
theorem d105_77 : decode prog_6_method_18_code 77 = .ok (.aload_n 0, 1) := by decide +kernel
theorem d105_78 : decode prog_6_method_18_code 78 = .ok (.getfield 15, 3) := by decide +kernel
theorem d105_81 : decode prog_6_method_18_code 81 = .ok (.iload_n 3, 1) := by decide +kernel
theorem d105_82 : decode prog_6_method_18_code 82 = .ok (.invokevirtual 42, 3) := by decide +kernel
theorem d105_85 : decode prog_6_method_18_code 85 = .ok (.iinc 2 (-1), 3) := by decide +kernel
theorem d105_88 : decode prog_6_method_18_code 88 = .ok (.goto (-48), 3) := by decide +kernel
theorem d105_91 : decode prog_6_method_18_code 91 = .ok (.aload_n 0, 1) := by decide +kernel
theorem d105_92 : decode prog_6_method_18_code 92 = .ok (.getfield 9, 3) := by decide +kernel
theorem d105_95 : decode prog_6_method_18_code 95 = .ok (.bipush 19, 2) := by decide +kernel
theorem d105_97 : decode prog_6_method_18_code 97 = .ok (.invokevirtual 48, 3) := by decide +kernel
theorem d105_100 : decode prog_6_method_18_code 100 = .ok (.ifCond .eq 14, 3) := by decide +kernel
theorem d105_103 : decode prog_6_method_18_code 103 = .ok (.aload_n 0, 1) := by decide +kernel
theorem d105_104 : decode prog_6_method_18_code 104 = .ok (.getfield 9, 3) := by decide +kernel
theorem d105_107 : decode prog_6_method_18_code 107 = .ok (.invokevirtual 68, 3) := by decide +kernel
theorem d105_110 : decode prog_6_method_18_code 110 = .ok (.aload_n 0, 1) := by decide +kernel
theorem d105_111 : decode prog_6_method_18_code 111 = .ok (.invokevirtual 90, 3) := by decide +kernel
theorem d105_114 : decode prog_6_method_18_code 114 = .ok (.aload_n 0, 1) := by decide +kernel
theorem d105_115 : decode prog_6_method_18_code 115 = .ok (.getfield 9, 3) := by decide +kernel
theorem d105_118 : decode prog_6_method_18_code 118 = .ok (.bipush 22, 2) := by decide +kernel
theorem d105_120 : decode prog_6_method_18_code 120 = .ok (.invokevirtual 78, 3) := by decide +kernel
theorem d105_123 : decode prog_6_method_18_code 123 = .ok (.aload_n 0, 1) := by decide +kernel
theorem d105_124 : decode prog_6_method_18_code 124 = .ok (.dup, 1) := by decide +kernel
theorem d105_125 : decode prog_6_method_18_code 125 = .ok (.getfield 19, 3) := by decide +kernel
theorem d105_128 : decode prog_6_method_18_code 128 = .ok (.iconst 1, 1) := by decide +kernel
theorem d105_129 : decode prog_6_method_18_code 129 = .ok (.isub, 1) := by decide +kernel
theorem d105_130 : decode prog_6_method_18_code 130 = .ok (.putfield 19, 3) := by decide +kernel
theorem d105_133 : decode prog_6_method_18_code 133 = .ok (.aload_n 0, 1) := by decide +kernel
theorem d105_134 : decode prog_6_method_18_code 134 = .ok (.getfield 15, 3) := by decide +kernel
theorem d105_137 : decode prog_6_method_18_code 137 = .ok (.iload_n 1, 1) := by decide +kernel
theorem d105_138 : decode prog_6_method_18_code 138 = .ok (.invokevirtual 42, 3) := by decide +kernel
theorem d105_141 : decode prog_6_method_18_code 141 = .ok (.return_, 1) := by decide +kernel
theorem m105 : pm_m 105 = some (⟨"TypeRules$Parser", "readCase", "()V"⟩, prog_6_method_18_code, 4, none, 4, 0, 5) := rfl
theorem d107_0 : decode prog_6_method_19_code 0 = .ok (.iconst 1, 1) := by decide +kernel
theorem d107_1 : decode prog_6_method_19_code 1 = .ok (.istore_n 1, 1) := by decide +kernel
theorem d107_2 : decode prog_6_method_19_code 2 = .ok (.sipush 8192, 3) := by decide +kernel
theorem d107_5 : decode prog_6_method_19_code 5 = .ok (.istore_n 2, 1) := by decide +kernel
theorem d107_6 : decode prog_6_method_19_code 6 = .ok (.iload_n 1, 1) := by decide +kernel
theorem d107_7 : decode prog_6_method_19_code 7 = .ok (.ifCond .eq 87, 3) := by decide +kernel
theorem d107_10 : decode prog_6_method_19_code 10 = .ok (.iload_n 2, 1) := by decide +kernel
theorem d107_11 : decode prog_6_method_19_code 11 = .ok (.ifCond .le 83, 3) := by decide +kernel
theorem d107_14 : decode prog_6_method_19_code 14 = .ok (.aload_n 0, 1) := by decide +kernel
theorem d107_15 : decode prog_6_method_19_code 15 = .ok (.getfield 15, 3) := by decide +kernel
theorem d107_18 : decode prog_6_method_19_code 18 = .ok (.bipush 18, 2) := by decide +kernel
theorem d107_20 : decode prog_6_method_19_code 20 = .ok (.aload_n 0, 1) := by decide +kernel
theorem d107_21 : decode prog_6_method_19_code 21 = .ok (.getfield 9, 3) := by decide +kernel
theorem d107_24 : decode prog_6_method_19_code 24 = .ok (.invokevirtual 65, 3) := by decide +kernel
theorem d107_27 : decode prog_6_method_19_code 27 = .ok (.iconst 0, 1) := by decide +kernel
theorem d107_28 : decode prog_6_method_19_code 28 = .ok (.invokevirtual 34, 3) := by decide +kernel
theorem d107_31 : decode prog_6_method_19_code 31 = .ok (.istore_n 3, 1) := by decide +kernel
theorem d107_32 : decode prog_6_method_19_code 32 = .ok (.aload_n 0, 1) := by decide +kernel
theorem d107_33 : decode prog_6_method_19_code 33 = .ok (.invokevirtual 102, 3) := by decide +kernel
theorem d107_36 : decode prog_6_method_19_code 36 = .ok (.aload_n 0, 1) := by decide +kernel
theorem d107_37 : decode prog_6_method_19_code 37 = .ok (.getfield 9, 3) := by decide +kernel
theorem d107_40 : decode prog_6_method_19_code 40 = .ok (.bipush 48, 2) := by decide +kernel
theorem d107_42 : decode prog_6_method_19_code 42 = .ok (.invokevirtual 48, 3) := by decide +kernel
theorem d107_45 : decode prog_6_method_19_code 45 = .ok (.ifCond .eq 14, 3) := by decide +kernel
theorem d107_48 : decode prog_6_method_19_code 48 = .ok (.aload_n 0, 1) := by decide +kernel
theorem d107_49 : decode prog_6_method_19_code 49 = .ok (.getfield 9, 3) := by decide +kernel
theorem d107_52 : decode prog_6_method_19_code 52 = .ok (.invokevirtual 68, 3) := by decide +kernel
theorem d107_55 : decode prog_6_method_19_code 55 = .ok (.aload_n 0, 1) := by decide +kernel
theorem d107_56 : decode prog_6_method_19_code 56 = .ok (.invokevirtual 102, 3) := by decide +kernel
theorem d107_59 : decode prog_6_method_19_code 59 = .ok (.aload_n 0, 1) := by decide +kernel
theorem d107_60 : decode prog_6_method_19_code 60 = .ok (.getfield 15, 3) := by decide +kernel
theorem d107_63 : decode prog_6_method_19_code 63 = .ok (.iload_n 3, 1) := by decide +kernel
theorem d107_64 : decode prog_6_method_19_code 64 = .ok (.invokevirtual 42, 3) := by decide +kernel
theorem d107_67 : decode prog_6_method_19_code 67 = .ok (.aload_n 0, 1) := by decide +kernel
theorem d107_68 : decode prog_6_method_19_code 68 = .ok (.getfield 9, 3) := by decide +kernel
theorem d107_71 : decode prog_6_method_19_code 71 = .ok (.bipush 56, 2) := by decide +kernel
theorem d107_73 : decode prog_6_method_19_code 73 = .ok (.invokevirtual 48, 3) := by decide +kernel
theorem d107_76 : decode prog_6_method_19_code 76 = .ok (.istore_n 1, 1) := by decide +kernel
theorem d107_77 : decode prog_6_method_19_code 77 = .ok (.iload_n 1, 1) := by decide +kernel
theorem d107_78 : decode prog_6_method_19_code 78 = .ok (.ifCond .eq 10, 3) := by decide +kernel
theorem d107_81 : decode prog_6_method_19_code 81 = .ok (.aload_n 0, 1) := by decide +kernel
theorem d107_82 : decode prog_6_method_19_code 82 = .ok (.getfield 9, 3) := by decide +kernel
theorem d107_85 : decode prog_6_method_19_code 85 = .ok (.invokevirtual 68, 3) := by decide +kernel
theorem d107_88 : decode prog_6_method_19_code 88 = .ok (.iinc 2 (-1), 3) := by decide +kernel
theorem d107_91 : decode prog_6_method_19_code 91 = .ok (.goto (-85), 3) := by decide +kernel
theorem d107_94 : decode prog_6_method_19_code 94 = .ok (.aload_n 0, 1) := by decide +kernel
theorem d107_95 : decode prog_6_method_19_code 95 = .ok (.getfield 9, 3) := by decide +kernel
theorem d107_98 : decode prog_6_method_19_code 98 = .ok (.bipush 58, 2) := by decide +kernel
theorem d107_100 : decode prog_6_method_19_code 100 = .ok (.invokevirtual 78, 3) := by decide +kernel
theorem d107_103 : decode prog_6_method_19_code 103 = .ok (.return_, 1) := by decide +kernel
theorem m107 : pm_m 107 = some (⟨"TypeRules$Parser", "readRanges", "()V"⟩, prog_6_method_19_code, 4, none, 4, 0, 5) := rfl
theorem d108_0 : decode prog_6_method_20_code 0 = .ok (.aload_n 0, 1) := by decide +kernel
theorem d108_1 : decode prog_6_method_20_code 1 = .ok (.getfield 15, 3) := by decide +kernel
theorem d108_4 : decode prog_6_method_20_code 4 = .ok (.bipush 19, 2) := by decide +kernel
theorem d108_6 : decode prog_6_method_20_code 6 = .ok (.aload_n 0, 1) := by decide +kernel
theorem d108_7 : decode prog_6_method_20_code 7 = .ok (.getfield 9, 3) := by decide +kernel
theorem d108_10 : decode prog_6_method_20_code 10 = .ok (.invokevirtual 65, 3) := by decide +kernel
theorem d108_13 : decode prog_6_method_20_code 13 = .ok (.iconst 0, 1) := by decide +kernel
theorem d108_14 : decode prog_6_method_20_code 14 = .ok (.invokevirtual 34, 3) := by decide +kernel
theorem d108_17 : decode prog_6_method_20_code 17 = .ok (.istore_n 1, 1) := by decide +kernel
theorem d108_18 : decode prog_6_method_20_code 18 = .ok (.aload_n 0, 1) := by decide +kernel
theorem d108_19 : decode prog_6_method_20_code 19 = .ok (.invokevirtual 141, 3) := by decide +kernel
theorem d108_22 : decode prog_6_method_20_code 22 = .ok (.aload_n 0, 1) := by decide +kernel
theorem d108_23 : decode prog_6_method_20_code 23 = .ok (.getfield 15, 3) := by decide +kernel
theorem d108_26 : decode prog_6_method_20_code 26 = .ok (.iload_n 1, 1) := by decide +kernel
theorem d108_27 : decode prog_6_method_20_code 27 = .ok (.aload_n 0, 1) := by decide +kernel
theorem d108_28 : decode prog_6_method_20_code 28 = .ok (.getfield 9, 3) := by decide +kernel
theorem d108_31 : decode prog_6_method_20_code 31 = .ok (.invokevirtual 71, 3) := by decide +kernel
theorem d108_34 : decode prog_6_method_20_code 34 = .ok (.invokevirtual 74, 3) := by decide +kernel
theorem d108_37 : decode prog_6_method_20_code 37 = .ok (.aload_n 0, 1) := by decide +kernel
theorem d108_38 : decode prog_6_method_20_code 38 = .ok (.getfield 9, 3) := by decide +kernel
theorem d108_41 : decode prog_6_method_20_code 41 = .ok (.bipush 41, 2) := by decide +kernel
theorem d108_43 : decode prog_6_method_20_code 43 = .ok (.invokevirtual 78, 3) := by decide +kernel
theorem d108_46 : decode prog_6_method_20_code 46 = .ok (.aload_n 0, 1) := by decide +kernel
theorem d108_47 : decode prog_6_method_20_code 47 = .ok (.getfield 9, 3) := by decide +kernel
theorem d108_50 : decode prog_6_method_20_code 50 = .ok (.bipush 47, 2) := by decide +kernel
theorem d108_52 : decode prog_6_method_20_code 52 = .ok (.invokevirtual 78, 3) := by decide +kernel
theorem d108_55 : decode prog_6_method_20_code 55 = .ok (.aload_n 0, 1) := by decide +kernel
theorem d108_56 : decode prog_6_method_20_code 56 = .ok (.invokevirtual 102, 3) := by decide +kernel
theorem d108_59 : decode prog_6_method_20_code 59 = .ok (.aload_n 0, 1) := by decide +kernel
theorem d108_60 : decode prog_6_method_20_code 60 = .ok (.getfield 9, 3) := by decide +kernel
theorem d108_63 : decode prog_6_method_20_code 63 = .ok (.bipush 24, 2) := by decide +kernel
theorem d108_65 : decode prog_6_method_20_code 65 = .ok (.invokevirtual 78, 3) := by decide +kernel
theorem d108_68 : decode prog_6_method_20_code 68 = .ok (.aload_n 0, 1) := by decide +kernel
theorem d108_69 : decode prog_6_method_20_code 69 = .ok (.invokevirtual 102, 3) := by decide +kernel
theorem d108_72 : decode prog_6_method_20_code 72 = .ok (.aload_n 0, 1) := by decide +kernel
theorem d108_73 : decode prog_6_method_20_code 73 = .ok (.getfield 9, 3) := by decide +kernel
theorem d108_76 : decode prog_6_method_20_code 76 = .ok (.bipush 25, 2) := by decide +kernel
theorem d108_78 : decode prog_6_method_20_code 78 = .ok (.invokevirtual 48, 3) := by decide +kernel
theorem d108_81 : decode prog_6_method_20_code 81 = .ok (.ifCond .eq 14, 3) := by decide +kernel
theorem d108_84 : decode prog_6_method_20_code 84 = .ok (.aload_n 0, 1) := by decide +kernel
theorem d108_85 : decode prog_6_method_20_code 85 = .ok (.getfield 9, 3) := by decide +kernel
theorem d108_88 : decode prog_6_method_20_code 88 = .ok (.invokevirtual 68, 3) := by decide +kernel
theorem d108_91 : decode prog_6_method_20_code 91 = .ok (.aload_n 0, 1) := by decide +kernel
theorem d108_92 : decode prog_6_method_20_code 92 = .ok (.invokevirtual 102, 3) := by decide +kernel
theorem d108_95 : decode prog_6_method_20_code 95 = .ok (.aload_n 0, 1) := by decide +kernel
theorem d108_96 : decode prog_6_method_20_code 96 = .ok (.getfield 9, 3) := by decide +kernel
theorem d108_99 : decode prog_6_method_20_code 99 = .ok (.bipush 26, 2) := by decide +kernel
theorem d108_101 : decode prog_6_method_20_code 101 = .ok (.invokevirtual 78, 3) := by decide +kernel
theorem d108_104 : decode prog_6_method_20_code 104 = .ok (.aload_n 0, 1) := by decide +kernel
theorem d108_105 : decode prog_6_method_20_code 105 = .ok (.invokevirtual 90, 3) := by decide +kernel
theorem d108_108 : decode prog_6_method_20_code 108 = .ok (.aload_n 0, 1) := by decide +kernel
theorem d108_109 : decode prog_6_method_20_code 109 = .ok (.getfield 9, 3) := by decide +kernel
theorem d108_112 : decode prog_6_method_20_code 112 = .ok (.bipush 27, 2) := by decide +kernel
theorem d108_114 : decode prog_6_method_20_code 114 = .ok (.invokevirtual 78, 3) := by decide +kernel
theorem d108_117 : decode prog_6_method_20_code 117 = .ok (.aload_n 0, 1) := by decide +kernel
theorem d108_118 : decode prog_6_method_20_code 118 = .ok (.dup, 1) := by decide +kernel
theorem d108_119 : decode prog_6_method_20_code 119 = .ok (.getfield 19, 3) := by decide +kernel
theorem d108_122 : decode prog_6_method_20_code 122 = .ok (.iconst 1, 1) := by decide +kernel
theorem d108_123 : decode prog_6_method_20_code 123 = .ok (.isub, 1) := by decide +kernel
theorem d108_124 : decode prog_6_method_20_code 124 = .ok (.putfield 19, 3) := by decide +kernel
theorem d108_127 : decode prog_6_method_20_code 127 = .ok (.aload_n 0, 1) := by decide +kernel
theorem d108_128 : decode prog_6_method_20_code 128 = .ok (.getfield 15, 3) := by decide +kernel
theorem d108_131 : decode prog_6_method_20_code 131 = .ok (.iload_n 1, 1) := by decide +kernel
theorem d108_132 : decode prog_6_method_20_code 132 = .ok (.invokevirtual 42, 3) := by decide +kernel
theorem d108_135 : decode prog_6_method_20_code 135 = .ok (.return_, 1) := by decide +kernel
theorem m108 : pm_m 108 = some (⟨"TypeRules$Parser", "readFor", "()V"⟩, prog_6_method_20_code, 2, none, 4, 0, 5) := rfl
theorem d95_0 : decode prog_6_method_14_code 0 = .ok (.aload_n 0, 1) := by decide +kernel
theorem d95_1 : decode prog_6_method_14_code 1 = .ok (.getfield 9, 3) := by decide +kernel
theorem d95_4 : decode prog_6_method_14_code 4 = .ok (.invokevirtual 58, 3) := by decide +kernel
theorem d95_7 : decode prog_6_method_14_code 7 = .ok (.lookupswitch 171 #[(16, 94), (21, 101), (23, 108), (28, 115), (29, 143), (41, 68), (57, 65)], 65) := by decide +kernel
theorem d95_72 : decode prog_6_method_14_code 72 = .ok (.goto 108, 3) := by decide +kernel
theorem d95_75 : decode prog_6_method_14_code 75 = .ok (.aload_n 0, 1) := by decide +kernel
theorem d95_76 : decode prog_6_method_14_code 76 = .ok (.getfield 9, 3) := by decide +kernel
theorem d95_79 : decode prog_6_method_14_code 79 = .ok (.bipush 52, 2) := by decide +kernel
theorem d95_81 : decode prog_6_method_14_code 81 = .ok (.invokevirtual 114, 3) := by decide +kernel
theorem d95_84 : decode prog_6_method_14_code 84 = .ok (.ifCond .eq 10, 3) := by decide +kernel
theorem d95_87 : decode prog_6_method_14_code 87 = .ok (.aload_n 0, 1) := by decide +kernel
theorem d95_88 : decode prog_6_method_14_code 88 = .ok (.invokevirtual 117, 3) := by decide +kernel
theorem d95_91 : decode prog_6_method_14_code 91 = .ok (.goto 89, 3) := by decide +kernel
theorem d95_94 : decode prog_6_method_14_code 94 = .ok (.aload_n 0, 1) := by decide +kernel
theorem d95_95 : decode prog_6_method_14_code 95 = .ok (.invokevirtual 120, 3) := by decide +kernel
theorem d95_98 : decode prog_6_method_14_code 98 = .ok (.goto 82, 3) := by decide +kernel
theorem d95_101 : decode prog_6_method_14_code 101 = .ok (.aload_n 0, 1) := by decide +kernel
theorem d95_102 : decode prog_6_method_14_code 102 = .ok (.invokevirtual 123, 3) := by decide +kernel
theorem d95_105 : decode prog_6_method_14_code 105 = .ok (.goto 75, 3) := by decide +kernel
theorem d95_108 : decode prog_6_method_14_code 108 = .ok (.aload_n 0, 1) := by decide +kernel
theorem d95_109 : decode prog_6_method_14_code 109 = .ok (.invokevirtual 126, 3) := by decide +kernel
theorem d95_112 : decode prog_6_method_14_code 112 = .ok (.goto 68, 3) := by decide +kernel
theorem d95_115 : decode prog_6_method_14_code 115 = .ok (.aload_n 0, 1) := by decide +kernel
theorem d95_116 : decode prog_6_method_14_code 116 = .ok (.invokevirtual 129, 3) := by decide +kernel
theorem d95_119 : decode prog_6_method_14_code 119 = .ok (.goto 61, 3) := by decide +kernel
theorem d95_122 : decode prog_6_method_14_code 122 = .ok (.aload_n 0, 1) := by decide +kernel
theorem d95_123 : decode prog_6_method_14_code 123 = .ok (.getfield 15, 3) := by decide +kernel
theorem d95_126 : decode prog_6_method_14_code 126 = .ok (.bipush 20, 2) := by decide +kernel
theorem d95_128 : decode prog_6_method_14_code 128 = .ok (.aload_n 0, 1) := by decide +kernel
theorem d95_129 : decode prog_6_method_14_code 129 = .ok (.getfield 9, 3) := by decide +kernel
theorem d95_132 : decode prog_6_method_14_code 132 = .ok (.invokevirtual 65, 3) := by decide +kernel
theorem d95_135 : decode prog_6_method_14_code 135 = .ok (.iconst 0, 1) := by decide +kernel
theorem d95_136 : decode prog_6_method_14_code 136 = .ok (.invokevirtual 34, 3) := by decide +kernel
theorem d95_139 : decode prog_6_method_14_code 139 = .ok (.pop, 1) := by decide +kernel
theorem d95_140 : decode prog_6_method_14_code 140 = .ok (.aload_n 0, 1) := by decide +kernel
theorem d95_141 : decode prog_6_method_14_code 141 = .ok (.getfield 9, 3) := by decide +kernel
theorem d95_144 : decode prog_6_method_14_code 144 = .ok (.invokevirtual 68, 3) := by decide +kernel
theorem d95_147 : decode prog_6_method_14_code 147 = .ok (.goto 33, 3) := by decide +kernel
theorem d95_150 : decode prog_6_method_14_code 150 = .ok (.aload_n 0, 1) := by decide +kernel
theorem d95_151 : decode prog_6_method_14_code 151 = .ok (.getfield 15, 3) := by decide +kernel
theorem d95_154 : decode prog_6_method_14_code 154 = .ok (.bipush 21, 2) := by decide +kernel
theorem d95_156 : decode prog_6_method_14_code 156 = .ok (.aload_n 0, 1) := by decide +kernel
theorem d95_157 : decode prog_6_method_14_code 157 = .ok (.getfield 9, 3) := by decide +kernel
theorem d95_160 : decode prog_6_method_14_code 160 = .ok (.invokevirtual 65, 3) := by decide +kernel
theorem d95_163 : decode prog_6_method_14_code 163 = .ok (.iconst 0, 1) := by decide +kernel
theorem d95_164 : decode prog_6_method_14_code 164 = .ok (.invokevirtual 34, 3) := by decide +kernel
theorem d95_167 : decode prog_6_method_14_code 167 = .ok (.pop, 1) := by decide +kernel
theorem d95_168 : decode prog_6_method_14_code 168 = .ok (.aload_n 0, 1) := by decide +kernel
theorem d95_169 : decode prog_6_method_14_code 169 = .ok (.getfield 9, 3) := by decide +kernel
theorem d95_172 : decode prog_6_method_14_code 172 = .ok (.invokevirtual 68, 3) := by decide +kernel
theorem d95_175 : decode prog_6_method_14_code 175 = .ok (.goto 5, 3) := by decide +kernel
theorem d95_178 : decode prog_6_method_14_code 178 = .ok (.iconst 0, 1) := by decide +kernel
theorem d95_179 : decode prog_6_method_14_code 179 = .ok (.ireturn, 1) := by decide +kernel
theorem d95_180 : decode prog_6_method_14_code 180 = .ok (.aload_n 0, 1) := by decide +kernel
theorem d95_181 : decode prog_6_method_14_code 181 = .ok (.getfield 9, 3) := by decide +kernel
theorem d95_184 : decode prog_6_method_14_code 184 = .ok (.bipush 57, 2) := by decide +kernel
theorem d95_186 : decode prog_6_method_14_code 186 = .ok (.invokevirtual 78, 3) := by decide +kernel
theorem d95_189 : decode prog_6_method_14_code 189 = .ok (.iconst 1, 1) := by decide +kernel
theorem d95_190 : decode prog_6_method_14_code 190 = .ok (.ireturn, 1) := by decide +kernel
theorem m95 : pm_m 95 = some (⟨"TypeRules$Parser", "readStatement", "()Z"⟩, prog_6_method_14_code, 1, (some FieldType.boolean), 4, 0, 5) := rfl
theorem d94_0 : decode prog_6_method_13_code 0 = .ok (.aload_n 0, 1) := by decide +kernel
theorem d94_1 : decode prog_6_method_13_code 1 = .ok (.getfield 15, 3) := by decide +kernel
theorem d94_4 : decode prog_6_method_13_code 4 = .ok (.bipush 11, 2) := by decide +kernel
theorem d94_6 : decode prog_6_method_13_code 6 = .ok (.aload_n 0, 1) := by decide +kernel
theorem d94_7 : decode prog_6_method_13_code 7 = .ok (.getfield 9, 3) := by decide +kernel
theorem d94_10 : decode prog_6_method_13_code 10 = .ok (.invokevirtual 108, 3) := by decide +kernel
theorem d94_13 : decode prog_6_method_13_code 13 = .ok (.iconst 0, 1) := by decide +kernel
theorem d94_14 : decode prog_6_method_13_code 14 = .ok (.invokevirtual 34, 3) := by decide +kernel
theorem d94_17 : decode prog_6_method_13_code 17 = .ok (.istore_n 1, 1) := by decide +kernel
theorem d94_18 : decode prog_6_method_13_code 18 = .ok (.iconst 1, 1) := by decide +kernel
theorem d94_19 : decode prog_6_method_13_code 19 = .ok (.istore_n 2, 1) := by decide +kernel
theorem d94_20 : decode prog_6_method_13_code 20 = .ok (.sipush 8192, 3) := by decide +kernel
theorem d94_23 : decode prog_6_method_13_code 23 = .ok (.istore_n 3, 1) := by decide +kernel
theorem d94_24 : decode prog_6_method_13_code 24 = .ok (.iload_n 2, 1) := by decide +kernel
theorem d94_25 : decode prog_6_method_13_code 25 = .ok (.ifCond .eq 18, 3) := by decide +kernel
theorem d94_28 : decode prog_6_method_13_code 28 = .ok (.iload_n 3, 1) := by decide +kernel
theorem d94_29 : decode prog_6_method_13_code 29 = .ok (.ifCond .le 14, 3) := by decide +kernel
theorem d94_32 : decode prog_6_method_13_code 32 = .ok (.aload_n 0, 1) := by decide +kernel
theorem d94_33 : decode prog_6_method_13_code 33 = .ok (.invokevirtual 111, 3) := by decide +kernel
theorem d94_36 : decode prog_6_method_13_code 36 = .ok (.istore_n 2, 1) := by decide +kernel
theorem d94_37 : decode prog_6_method_13_code 37 = .ok (.iinc 3 (-1), 3) := by decide +kernel
theorem d94_40 : decode prog_6_method_13_code 40 = .ok (.goto (-16), 3) := by decide +kernel
theorem d94_43 : decode prog_6_method_13_code 43 = .ok (.aload_n 0, 1) := by decide +kernel
theorem d94_44 : decode prog_6_method_13_code 44 = .ok (.getfield 15, 3) := by decide +kernel
theorem d94_47 : decode prog_6_method_13_code 47 = .ok (.iload_n 1, 1) := by decide +kernel
theorem d94_48 : decode prog_6_method_13_code 48 = .ok (.invokevirtual 42, 3) := by decide +kernel
theorem d94_51 : decode prog_6_method_13_code 51 = .ok (.return_, 1) := by decide +kernel
theorem m94 : pm_m 94 = some (⟨"TypeRules$Parser", "readBody", "()V"⟩, prog_6_method_13_code, 4, none, 4, 0, 5) := rfl
/-! STATEMENTS -/
theorem pg_nxl {T : pg_T} {c : pg_C} {k : Nat} (hl : pg_live T c ∧ T.1 c.1 ≠ 44) (h : pg_next T k c = true) (hk : k ≠ 44 ∧ k ≠ 45 ∧ k ≠ 46) : pg_live T (pg_stp c) ∧ T.1 (pg_stp c).1 ≠ 44 := by
  rw [show pg_stp c = (c.1 + 1, c.2.1, c.2.2) from if_pos hl.1.1]
  have z : T.1 (c.1 + 1) = k := by unfold pg_next at h; simpa using h
  exact ⟨⟨hl.1.1, by show T.1 (c.1 + 1) ≠ 45; omega⟩, by show T.1 (c.1 + 1) ≠ 44; omega⟩
def pb_B (T : pg_T) (n : Nat) (σ0 : pm_S) (D : Nat) (B : pg_P) (c : pg_C) : Prop := ∀ (σ : pm_S) (l s : List pg_N) (Q : Option Value → pm_S → Prop), pc_R T n σ0 σ c l s → (∀ σ', pc_R T n σ0 σ' (pg_body T B c).1 l (s ++ (pg_body T B c).2) → Q none σ') → pm_call pm_Y0 D 94 [.ref 4] σ Q
theorem pp103 {d : Nat} {T : pg_T} {n : Nat} {σ0 σ : pm_S} {c : pg_C} {l s : List pg_N} {Q : Option Value → pm_S → Prop} (hK : pc_K T n σ0) (hd : 608 ≤ d) (hl : pg_live T c ∧ T.1 c.1 ≠ 44) (hR : pc_R T n σ0 σ c l s) (hQ : ∀ σ', pc_R T n σ0 σ' (pg_asg T c).1 l (s ++ (pg_asg T c).2) → Q none σ') : pm_call pm_Y0 (d + 5) 103 [.ref 4] σ Q := by
  refine wq_m m103 (Nat.le_of_ble_eq_true rfl) (by decide) rfl ?_
  refine wq_l 1 d103_0 rfl rfl rfl rfl ?_
  refine wq_gr (ci := 4) (j := 1) (q := 3) 4 d103_1 rfl rfl rfl rfl ?_
  refine wq_k 6 12 d103_4 (by decide) rfl ?_
  refine wq_k 7 0 d103_6 (by decide) rfl ?_
  refine wq_k 8 0 d103_7 (by decide) rfl ?_
  refine wq_v 11 [_, _, _] d103_8 rfl rfl m57 rfl rfl (Nat.le_of_ble_eq_true rfl) rfl (pk57o (k := 12) (p := 0) hR (fun σ8 x8 hx8 h8 => ?_))
  refine wq_s 12 d103_11 rfl rfl (Nat.le_of_ble_eq_true rfl) rfl rfl ?_
  refine wq_l 13 d103_12 rfl rfl rfl rfl ?_
  refine wq_gr (ci := 4) (j := 0) (q := 2) 16 d103_13 rfl rfl rfl rfl ?_
  refine wq_k 18 54 d103_16 (by decide) rfl ?_
  refine wq_v 21 [_] d103_18 rfl rfl m53 rfl rfl (Nat.le_of_ble_eq_true rfl) rfl (pk53 (k := 54) hK (by decide) h8 ?_)
  refine wq_b 32 24 d103_21 rfl (by decide) rfl (fun c21 => ?_) (fun c21 => ?_)
  · -- pc 32
    have f21 := b2z c21
    refine wq_l 33 d103_32 rfl rfl rfl rfl ?_
    refine wq_v 36 [] d103_33 rfl rfl m84 rfl rfl (Nat.le_of_ble_eq_true rfl) rfl (pp84 hK h8 (fun σ33 h33 => ?_))
    refine wq_l 37 d103_36 rfl rfl rfl rfl ?_
    refine wq_gr (ci := 4) (j := 1) (q := 3) 40 d103_37 rfl rfl rfl rfl ?_
    refine wq_l 41 d103_40 rfl rfl rfl rfl ?_
    refine wq_l 42 d103_41 rfl rfl rfl rfl ?_
    refine wq_gr (ci := 4) (j := 0) (q := 2) 45 d103_42 rfl rfl rfl rfl ?_
    refine wq_v 48 [] d103_45 rfl rfl m46 rfl rfl (Nat.le_of_ble_eq_true rfl) rfl (pk46 hK h33 ?_)
    refine wq_v 51 [_, _] d103_48 rfl rfl m62 rfl rfl (Nat.le_of_ble_eq_true rfl) rfl (pk62 hx8 h33 (fun σ48 h48 => ?_))
    refine wq_l 52 d103_51 rfl rfl rfl rfl ?_
    refine wq_gr (ci := 4) (j := 0) (q := 2) 55 d103_52 rfl rfl rfl rfl ?_
    refine wq_k 57 47 d103_55 (by decide) rfl ?_
    refine wq_v 60 [_] d103_57 rfl rfl m49 rfl rfl (Nat.le_of_ble_eq_true rfl) rfl (pk49 (k := 47) hK (by decide) h48 (fun σ57 h57 => ?_))
    refine wq_l 61 d103_60 rfl rfl rfl rfl ?_
    refine wq_k 62 (-1) d103_61 (by decide) rfl ?_
    refine wq_v 65 [_] d103_62 rfl rfl m98 rfl rfl (Nat.le_of_ble_eq_true rfl) rfl (pp98 hK (by omega) _ _ _ _ h57 (fun σ62 h62 => ?_))
    refine wq_l 66 d103_65 rfl rfl rfl rfl ?_
    refine wq_gr (ci := 4) (j := 1) (q := 3) 69 d103_66 rfl rfl rfl rfl ?_
    refine wq_l 70 d103_69 rfl rfl rfl rfl ?_
    refine wq_v 73 [_] d103_70 rfl rfl m59 rfl rfl (Nat.le_of_ble_eq_true rfl) rfl (pk59 hx8 h62 (fun σ70 h70 => ?_))
    refine wq_rv d103_73 ?_
    exact hQ _ (pc_e h70 (by first | (simp only [pg_asg, pg_targ, pg_ite, if_true, if_false, Bool.false_eq_true, f21]; done) | rfl) (by simp only [pg_asg, pg_targ, pg_ite, List.append_assoc, List.nil_append, List.append_nil, List.cons_append, List.singleton_append, List.length_append, List.length_cons, List.length_nil, List.length_singleton, if_true, if_false, Bool.false_eq_true, f21]; done))
  · -- pc 24
    have f21 := b2n c21
    refine wq_l 25 d103_24 rfl rfl rfl rfl ?_
    refine wq_k 26 (-1) d103_25 (by decide) rfl ?_
    refine wq_v 29 [_] d103_26 rfl rfl m100 rfl rfl (Nat.le_of_ble_eq_true rfl) rfl (pe100 (cl := -1) hK hl (pg_nxl hl f21 (by decide)) (pg_oE T) (pg_dE T) (pp98 hK (by omega)) h8 (fun σ26 h26 => ?_))
    refine wq_g 36 d103_29 (by decide) ?_
    refine wq_l 37 d103_36 rfl rfl rfl rfl ?_
    refine wq_gr (ci := 4) (j := 1) (q := 3) 40 d103_37 rfl rfl rfl rfl ?_
    refine wq_l 41 d103_40 rfl rfl rfl rfl ?_
    refine wq_l 42 d103_41 rfl rfl rfl rfl ?_
    refine wq_gr (ci := 4) (j := 0) (q := 2) 45 d103_42 rfl rfl rfl rfl ?_
    refine wq_v 48 [] d103_45 rfl rfl m46 rfl rfl (Nat.le_of_ble_eq_true rfl) rfl (pk46 hK h26 ?_)
    refine wq_v 51 [_, _] d103_48 rfl rfl m62 rfl rfl (Nat.le_of_ble_eq_true rfl) rfl (pk62 hx8 h26 (fun σ48 h48 => ?_))
    refine wq_l 52 d103_51 rfl rfl rfl rfl ?_
    refine wq_gr (ci := 4) (j := 0) (q := 2) 55 d103_52 rfl rfl rfl rfl ?_
    refine wq_k 57 47 d103_55 (by decide) rfl ?_
    refine wq_v 60 [_] d103_57 rfl rfl m49 rfl rfl (Nat.le_of_ble_eq_true rfl) rfl (pk49 (k := 47) hK (by decide) h48 (fun σ57 h57 => ?_))
    refine wq_l 61 d103_60 rfl rfl rfl rfl ?_
    refine wq_k 62 (-1) d103_61 (by decide) rfl ?_
    refine wq_v 65 [_] d103_62 rfl rfl m98 rfl rfl (Nat.le_of_ble_eq_true rfl) rfl (pp98 hK (by omega) _ _ _ _ h57 (fun σ62 h62 => ?_))
    refine wq_l 66 d103_65 rfl rfl rfl rfl ?_
    refine wq_gr (ci := 4) (j := 1) (q := 3) 69 d103_66 rfl rfl rfl rfl ?_
    refine wq_l 70 d103_69 rfl rfl rfl rfl ?_
    refine wq_v 73 [_] d103_70 rfl rfl m59 rfl rfl (Nat.le_of_ble_eq_true rfl) rfl (pk59 hx8 h62 (fun σ70 h70 => ?_))
    refine wq_rv d103_73 ?_
    exact hQ _ (pc_e h70 (by first | (simp only [pg_asg, pg_targ, pg_ite, if_true, if_false, Bool.false_eq_true, f21]; done) | rfl) (by simp only [pg_asg, pg_targ, pg_ite, List.append_assoc, List.nil_append, List.append_nil, List.cons_append, List.singleton_append, List.length_append, List.length_cons, List.length_nil, List.length_singleton, if_true, if_false, Bool.false_eq_true, f21]; done))
theorem pg_parE {T : pg_T} {E : pg_P} {c : pg_C} : pg_node 14 (pg_pl T) (pg_v T) (pg_seq (pg_tok (fun c => pg_exp T 47 (pg_exp T 41 c))) E) c = ((E (pg_exp T 47 (pg_exp T 41 c))).1, (14, pg_pl T c, pg_v T c, (E (pg_exp T 47 (pg_exp T 41 c))).2.length + 1) :: (E (pg_exp T 47 (pg_exp T 41 c))).2) := rfl
theorem pg_par0 {T : pg_T} {c : pg_C} : pg_par T c = ((pg_E T (pg_exp T 47 (pg_exp T 41 c))).1, (14, pg_pl T c, pg_v T c, (pg_E T (pg_exp T 47 (pg_exp T 41 c))).2.length + 1) :: (pg_E T (pg_exp T 47 (pg_exp T 41 c))).2) := by unfold pg_par; exact pg_parE
theorem pg_par1 {T : pg_T} {c : pg_C} : (pg_par T c).1 = (pg_E T (pg_exp T 47 (pg_exp T 41 c))).1 := by rw [pg_par0]
theorem pg_par2 {T : pg_T} {c : pg_C} : (pg_par T c).2 = (14, pg_pl T c, pg_v T c, (pg_E T (pg_exp T 47 (pg_exp T 41 c))).2.length + 1) :: (pg_E T (pg_exp T 47 (pg_exp T 41 c))).2 := by rw [pg_par0]
theorem pl96 {d : Nat} {T : pg_T} {n : Nat} {σ0 : pm_S} {l : List pg_N} {Q : Option Value → pm_S → Prop} {x : Int32} (hK : pc_K T n σ0) (hd : 608 ≤ d) : ∀ (k : Nat) (σ : pm_S) (c : pg_C) (s : List pg_N) (u : Value), k ≤ 8192 → pc_R T n σ0 σ c l s → (∀ σ' (y w : Int32) (u : Value), pc_R T n σ0 σ' (pg_sep T (pg_par T) k c).1 l (s ++ (pg_sep T (pg_par T) k c).2) → pm_WP pm_Y0 (pm_call pm_Y0 (d + 2)) 4 prog_6_method_16_code none Q 149 [.ref 4, .int x, .int w, .int y, u] [] σ') → pm_WP pm_Y0 (pm_call pm_Y0 (d + 2)) 4 prog_6_method_16_code none Q 57 [.ref 4, .int x, .int 1, .int (nI k), u] [] σ := by
  intro k
  induction k with
  | zero =>
    intro σ c s u hk hR hX
    refine wq_l 58 d96_57 rfl rfl rfl rfl ?_
    refine wq_b 149 61 d96_58 rfl (by decide) rfl (fun c58 => absurd c58 (by decide)) (fun c58 => ?_)
    refine wq_l 62 d96_61 rfl rfl rfl rfl ?_
    refine wq_b 149 65 d96_62 rfl (by decide) rfl (fun c62 => ?_) (fun c62 => absurd (by decide) c62)
    exact hX _ _ _ _ (pc_e hR rfl (by simp only [pg_sep, pg_nil, List.append_nil]; done))
  | succ k ih =>
    intro σ c s u hk hR hX
    have ek := nI_toInt (n := k + 1) (by omega)
    refine wq_l 58 d96_57 rfl rfl rfl rfl ?_
    refine wq_b 149 61 d96_58 rfl (by decide) rfl (fun c58 => absurd c58 (by decide)) (fun c58 => ?_)
    refine wq_l 62 d96_61 rfl rfl rfl rfl ?_
    refine wq_b 149 65 d96_62 rfl (by decide) rfl (fun c62 => absurd c62 ((by simp only [i_lt, i_le, i_eq, ne_eq, Int32.reduceToInt, b2_0, b2_1, decide_eq_true_eq, decide_eq_false_iff_not, Bool.not_eq_true, Bool.not_eq_false] at * <;> omega))) (fun c62 => ?_)
    refine wq_l 66 d96_65 rfl rfl rfl rfl ?_
    refine wq_gr (ci := 4) (j := 1) (q := 3) 69 d96_66 rfl rfl rfl rfl ?_
    refine wq_k 71 14 d96_69 (by decide) rfl ?_
    refine wq_l 72 d96_71 rfl rfl rfl rfl ?_
    refine wq_gr (ci := 4) (j := 0) (q := 2) 75 d96_72 rfl rfl rfl rfl ?_
    refine wq_v 78 [] d96_75 rfl rfl m46 rfl rfl (Nat.le_of_ble_eq_true rfl) rfl (pk46 hK hR ?_)
    refine wq_l 79 d96_78 rfl rfl rfl rfl ?_
    refine wq_gr (ci := 4) (j := 0) (q := 2) 82 d96_79 rfl rfl rfl rfl ?_
    refine wq_v 85 [] d96_82 rfl rfl m48 rfl rfl (Nat.le_of_ble_eq_true rfl) rfl (pk48 hK hR ?_)
    refine wq_v 88 [_, _, _] d96_85 rfl rfl m57 rfl rfl (Nat.le_of_ble_eq_true rfl) rfl (pk57o (k := 14) hR (fun σ85 x85 hx85 h85 => ?_))
    refine wq_s 90 d96_88 rfl rfl (Nat.le_of_ble_eq_true rfl) rfl rfl ?_
    refine wq_l 91 d96_90 rfl rfl rfl rfl ?_
    refine wq_gr (ci := 4) (j := 0) (q := 2) 94 d96_91 rfl rfl rfl rfl ?_
    refine wq_k 96 41 d96_94 (by decide) rfl ?_
    refine wq_v 99 [_] d96_96 rfl rfl m49 rfl rfl (Nat.le_of_ble_eq_true rfl) rfl (pk49 (k := 41) hK (by decide) h85 (fun σ96 h96 => ?_))
    refine wq_l 100 d96_99 rfl rfl rfl rfl ?_
    refine wq_gr (ci := 4) (j := 0) (q := 2) 103 d96_100 rfl rfl rfl rfl ?_
    refine wq_k 105 47 d96_103 (by decide) rfl ?_
    refine wq_v 108 [_] d96_105 rfl rfl m49 rfl rfl (Nat.le_of_ble_eq_true rfl) rfl (pk49 (k := 47) hK (by decide) h96 (fun σ105 h105 => ?_))
    refine wq_l 109 d96_108 rfl rfl rfl rfl ?_
    refine wq_k 110 (-1) d96_109 (by decide) rfl ?_
    refine wq_v 113 [_] d96_110 rfl rfl m98 rfl rfl (Nat.le_of_ble_eq_true rfl) rfl (pp98 hK (by omega) _ _ _ _ h105 (fun σ110 h110 => ?_))
    refine wq_l 114 d96_113 rfl rfl rfl rfl ?_
    refine wq_gr (ci := 4) (j := 1) (q := 3) 117 d96_114 rfl rfl rfl rfl ?_
    refine wq_l 119 d96_117 rfl rfl rfl rfl ?_
    refine wq_v 122 [_] d96_119 rfl rfl m59 rfl rfl (Nat.le_of_ble_eq_true rfl) rfl (pk59 hx85 h110 (fun σ119 h119 => ?_))
    have hp : pc_R T n σ0 _ (pg_par T c).1 l (s ++ (pg_par T c).2) := pc_e h119 pg_par1.symm (by rw [pg_par2]; simp only [List.nil_append, List.append_assoc]; done)
    refine wq_l 123 d96_122 rfl rfl rfl rfl ?_
    refine wq_gr (ci := 4) (j := 0) (q := 2) 126 d96_123 rfl rfl rfl rfl ?_
    refine wq_k 128 56 d96_126 (by decide) rfl ?_
    refine wq_v 131 [_] d96_128 rfl rfl m51 rfl rfl (Nat.le_of_ble_eq_true rfl) rfl (pk51 (k := 56) hK (by decide) hp ?_)
    refine wq_s 132 d96_131 rfl rfl (Nat.le_of_ble_eq_true rfl) rfl rfl ?_
    refine wq_l 133 d96_132 rfl rfl rfl rfl ?_
    refine wq_b 143 136 d96_133 rfl (by decide) rfl (fun c133 => ?_) (fun c133 => ?_)
    · -- pc 143
      have f133 := b2z c133
      refine wq_i 146 d96_143 rfl rfl rfl ?_
      refine wq_g 57 d96_146 (by decide) ?_
      rw [show nI (k + 1) + Int32.ofInt (-1) = nI k from nI_m1 k]
      rw [show b2 (pg_is T 56 (pg_par T c).1) = 0 from b2_f f133]
      refine wq_l 58 d96_57 rfl rfl rfl rfl ?_
      refine wq_b 149 61 d96_58 rfl (by decide) rfl (fun _ => ?_) (fun z => absurd rfl z)
      exact hX _ _ _ _ (pc_e hp (by simp only [pg_sep, pg_seq, pg_ite, pg_tok, pg_nil, if_true, if_false, Bool.false_eq_true, f133]; done) (by simp only [pg_sep, pg_seq, pg_ite, pg_tok, pg_nil, if_true, if_false, Bool.false_eq_true, f133, List.append_assoc, List.nil_append, List.append_nil, List.cons_append, List.singleton_append, List.length_append, List.length_cons, List.length_nil, List.length_singleton]; done))
    · -- pc 136
      have f133 := b2n c133
      refine wq_l 137 d96_136 rfl rfl rfl rfl ?_
      refine wq_gr (ci := 4) (j := 0) (q := 2) 140 d96_137 rfl rfl rfl rfl ?_
      refine wq_v 143 [] d96_140 rfl rfl m47 rfl rfl (Nat.le_of_ble_eq_true rfl) rfl (pk47 hK hp (pg_isl f133 (by decide)).1 (pg_isl f133 (by decide)).2 (fun σ140 h140 => ?_))
      refine wq_i 146 d96_143 rfl rfl rfl ?_
      refine wq_g 57 d96_146 (by decide) ?_
      rw [show nI (k + 1) + Int32.ofInt (-1) = nI k from nI_m1 k]
      rw [show b2 (pg_is T 56 (pg_par T c).1) = 1 from b2_t f133]
      exact ih _ _ _ _ (by omega) h140 (fun σ' y w u h' => hX σ' y w u (pc_e h' (by simp only [pg_sep, pg_seq, pg_ite, pg_tok, pg_nil, if_true, if_false, Bool.false_eq_true, f133]; done) (by simp only [pg_sep, pg_seq, pg_ite, pg_tok, pg_nil, if_true, if_false, Bool.false_eq_true, f133, List.append_assoc, List.nil_append, List.append_nil, List.cons_append, List.singleton_append, List.length_append, List.length_cons, List.length_nil, List.length_singleton]; done)))
theorem pq96_149 {d : Nat} {T : pg_T} {n : Nat} {σ0 σ : pm_S} {c : pg_C} {L r : List pg_N} {k0 p0 z0 : Nat} {v0 x : Int32} {Q : Option Value → pm_S → Prop} {w y : Int32} {u : Value} (hK : pc_K T n σ0) (ho : pg_live T c → 1 ≤ c.2.2) (hx : L.length < 16386 → x = nI L.length) (hR : pc_R T n σ0 σ c (L ++ [(k0, p0, v0, z0)]) r) (hQ : ∀ σ', pc_R T n σ0 σ' (pg_tok (fun c => pg_exp T 53 (pg_dec c)) c).1 L ((k0, p0, v0, (r ++ (pg_tok (fun c => pg_exp T 53 (pg_dec c)) c).2).length + 1) :: (r ++ (pg_tok (fun c => pg_exp T 53 (pg_dec c)) c).2)) → Q none σ') : pm_WP pm_Y0 (pm_call pm_Y0 (d + 2)) 4 prog_6_method_16_code none Q 149 [.ref 4, .int x, .int w, .int y, u] [] σ := by
  refine wq_l 150 d96_149 rfl rfl rfl rfl ?_
  refine wq_a 151 d96_150 rfl rfl ?_
  refine wq_gi (ci := 4) (j := 2) 154 d96_151 rfl rfl rfl rfl ?_
  refine wq_k 155 1 d96_154 (by decide) rfl ?_
  refine wq_a 156 d96_155 rfl rfl ?_
  refine wq_pf (ci := 4) (j := 2) 159 d96_156 rfl rfl rfl ⟨rfl, rfl⟩ rfl ?_
  have hd156 := pc_dec hR (ho)
  refine wq_l 160 d96_159 rfl rfl rfl rfl ?_
  refine wq_gr (ci := 4) (j := 0) (q := 2) 163 d96_160 rfl rfl rfl rfl ?_
  refine wq_k 165 53 d96_163 (by decide) rfl ?_
  refine wq_v 168 [_] d96_165 rfl rfl m49 rfl rfl (Nat.le_of_ble_eq_true rfl) rfl (pk49 (k := 53) hK (by decide) hd156 (fun σ165 h165 => ?_))
  refine wq_l 169 d96_168 rfl rfl rfl rfl ?_
  refine wq_gr (ci := 4) (j := 1) (q := 3) 172 d96_169 rfl rfl rfl rfl ?_
  refine wq_l 173 d96_172 rfl rfl rfl rfl ?_
  refine wq_v 176 [_] d96_173 rfl rfl m59 rfl rfl (Nat.le_of_ble_eq_true rfl) rfl (pk59 hx h165 (fun σ173 h173 => ?_))
  refine wq_rv d96_176 ?_
  exact hQ _ (pc_e h173 (by simp only [pg_tok, if_true, if_false, Bool.false_eq_true]; done) (by simp only [pg_tok, List.append_assoc, List.nil_append, List.append_nil, List.cons_append, List.singleton_append, List.length_append, List.length_cons, List.length_nil, List.length_singleton, if_true, if_false, Bool.false_eq_true]; done))
theorem pp96 {d : Nat} {T : pg_T} {n : Nat} {σ0 σ : pm_S} {c : pg_C} {l s : List pg_N} {Q : Option Value → pm_S → Prop} (hK : pc_K T n σ0) (hd : 608 ≤ d) (hl : pg_live T c ∧ T.1 c.1 ≠ 44) (hl2 : pg_live T (pg_stp c) ∧ T.1 (pg_stp c).1 ≠ 44) (hR : pc_R T n σ0 σ c l s) (hQ : ∀ σ', pc_R T n σ0 σ' (pg_inv T c).1 l (s ++ (pg_inv T c).2) → Q none σ') : pm_call pm_Y0 (d + 3) 96 [.ref 4] σ Q := by
  have ho1 : pg_live T (pg_opn (pg_stp c)) → 1 ≤ (pg_opn (pg_stp c)).2.2 := fun z => by
    have := (pg_lopn z).2.2
    rw [this]
    exact Nat.succ_pos _
  have epar : pg_node 14 (pg_pl T) (pg_v T) (pg_seq (pg_tok (fun c => pg_exp T 47 (pg_exp T 41 c))) (pg_E T)) = pg_par T := rfl
  refine wq_m m96 (Nat.le_of_ble_eq_true rfl) (by decide) rfl ?_
  refine wq_l 1 d96_0 rfl rfl rfl rfl ?_
  refine wq_gr (ci := 4) (j := 1) (q := 3) 4 d96_1 rfl rfl rfl rfl ?_
  refine wq_k 6 13 d96_4 (by decide) rfl ?_
  refine wq_l 7 d96_6 rfl rfl rfl rfl ?_
  refine wq_gr (ci := 4) (j := 0) (q := 2) 10 d96_7 rfl rfl rfl rfl ?_
  refine wq_v 13 [] d96_10 rfl rfl m46 rfl rfl (Nat.le_of_ble_eq_true rfl) rfl (pk46 hK hR ?_)
  refine wq_l 14 d96_13 rfl rfl rfl rfl ?_
  refine wq_gr (ci := 4) (j := 0) (q := 2) 17 d96_14 rfl rfl rfl rfl ?_
  refine wq_v 20 [] d96_17 rfl rfl m48 rfl rfl (Nat.le_of_ble_eq_true rfl) rfl (pk48 hK hR ?_)
  refine wq_v 23 [_, _, _] d96_20 rfl rfl m57 rfl rfl (Nat.le_of_ble_eq_true rfl) rfl (pk57o (k := 13) hR (fun σ20 x20 hx20 h20 => ?_))
  refine wq_s 24 d96_23 rfl rfl (Nat.le_of_ble_eq_true rfl) rfl rfl ?_
  refine wq_l 25 d96_24 rfl rfl rfl rfl ?_
  refine wq_gr (ci := 4) (j := 0) (q := 2) 28 d96_25 rfl rfl rfl rfl ?_
  refine wq_v 31 [] d96_28 rfl rfl m47 rfl rfl (Nat.le_of_ble_eq_true rfl) rfl (pk47 hK h20 (hl).1 (hl).2 (fun σ28 h28 => ?_))
  refine wq_l 32 d96_31 rfl rfl rfl rfl ?_
  refine wq_v 35 [] d96_32 rfl rfl m97 rfl rfl (Nat.le_of_ble_eq_true rfl) rfl (pk97 hK h28 (hl2).1 (hl2).2 (fun σ32 h32 => ?_))
  refine wq_l 36 d96_35 rfl rfl rfl rfl ?_
  refine wq_gr (ci := 4) (j := 0) (q := 2) 39 d96_36 rfl rfl rfl rfl ?_
  refine wq_k 41 53 d96_39 (by decide) rfl ?_
  refine wq_v 44 [_] d96_41 rfl rfl m51 rfl rfl (Nat.le_of_ble_eq_true rfl) rfl (pk51 (k := 53) hK (by decide) h32 ?_)
  refine wq_b 51 47 d96_44 rfl (by decide) rfl (fun c44 => ?_) (fun c44 => ?_)
  · -- pc 51
    have f44 := b2n c44
    refine wq_k 52 0 d96_51 (by decide) rfl ?_
    refine wq_s 53 d96_52 rfl rfl (Nat.le_of_ble_eq_true rfl) rfl rfl ?_
    refine wq_k 56 8192 d96_53 (by decide) rfl ?_
    refine wq_s 57 d96_56 rfl rfl (Nat.le_of_ble_eq_true rfl) rfl rfl ?_
    refine wq_l 58 d96_57 rfl rfl rfl rfl ?_
    refine wq_b 149 61 d96_58 rfl (by decide) rfl (fun _ => ?_) (fun z => absurd rfl z)
    exact pq96_149 hK ho1 hx20 h32 (fun σ' h' => hQ σ' (pc_e h' (by simp only [pg_inv, pg_node, pg_seq, pg_tok, pg_ite, pg_nil, if_true, if_false, Bool.false_eq_true, f44]; done) (by simp only [pg_inv, pg_node, pg_seq, pg_tok, pg_ite, pg_nil, List.append_assoc, List.nil_append, List.append_nil, List.cons_append, List.singleton_append, List.length_append, List.length_cons, List.length_nil, List.length_singleton, if_true, if_false, Bool.false_eq_true, f44]; done)))
  · -- pc 47
    have f44 := b2y c44
    refine wq_k 48 1 d96_47 (by decide) rfl ?_
    refine wq_g 52 d96_48 (by decide) ?_
    refine wq_s 53 d96_52 rfl rfl (Nat.le_of_ble_eq_true rfl) rfl rfl ?_
    refine wq_k 56 8192 d96_53 (by decide) rfl ?_
    refine wq_s 57 d96_56 rfl rfl (Nat.le_of_ble_eq_true rfl) rfl rfl ?_
    refine pl96 (x := x20) hK hd pg_M _ _ _ _ (Nat.le_refl _) h32 (fun σl yl wl ul hl => ?_)
    have fin : pg_inv T c = ((pg_tok (fun c => pg_exp T 53 (pg_dec c)) (pg_sep T (pg_par T) pg_M (pg_opn (pg_stp c))).1).1, (13, pg_pl T c, pg_v T c, ((pg_sep T (pg_par T) pg_M (pg_opn (pg_stp c))).2 ++ (pg_tok (fun c => pg_exp T 53 (pg_dec c)) (pg_sep T (pg_par T) pg_M (pg_opn (pg_stp c))).1).2).length + 1) :: ((pg_sep T (pg_par T) pg_M (pg_opn (pg_stp c))).2 ++ (pg_tok (fun c => pg_exp T 53 (pg_dec c)) (pg_sep T (pg_par T) pg_M (pg_opn (pg_stp c))).1).2)) := by
      rw [pg_inv, epar]
      simp only [pg_node, pg_seq, pg_tok, pg_ite, f44, if_false, Bool.false_eq_true, List.append_nil, List.nil_append]
    exact pq96_149 hK (fun z => by
      have h1 := pg_osep (pg_opar T) (pg_dpar T) pg_M _ z
      have h2 := ho1 (pg_bk (pg_dsep (pg_dpar T) pg_M) z)
      omega) hx20 hl (fun σ' h' => hQ σ' (by rw [fin]; dsimp only; exact pc_e h' rfl (by simp only [List.nil_append, List.append_assoc]; done)))
