theorem d180_0 : decode prog_8_method_2_code 0 = .ok (.aload_n 0, 1) := by decide +kernel
theorem d180_1 : decode prog_8_method_2_code 1 = .ok (.getfield 9, 3) := by decide +kernel
theorem d180_4 : decode prog_8_method_2_code 4 = .ok (.iload_n 1, 1) := by decide +kernel
theorem d180_5 : decode prog_8_method_2_code 5 = .ok (.invokevirtual 28, 3) := by decide +kernel
theorem d180_8 : decode prog_8_method_2_code 8 = .ok (.tableswitch 217 12 29 #[88, 94, 100, 106, 112, 217, 135, 141, 147, 217, 166, 179, 217, 185, 217, 217, 205, 211], 88) := by decide +kernel
theorem d180_96 : decode prog_8_method_2_code 96 = .ok (.aload_n 0, 1) := by decide +kernel
theorem d180_97 : decode prog_8_method_2_code 97 = .ok (.iload_n 1, 1) := by decide +kernel
theorem d180_98 : decode prog_8_method_2_code 98 = .ok (.invokevirtual 34, 3) := by decide +kernel
theorem d180_101 : decode prog_8_method_2_code 101 = .ok (.ireturn, 1) := by decide +kernel
theorem d180_102 : decode prog_8_method_2_code 102 = .ok (.aload_n 0, 1) := by decide +kernel
theorem d180_103 : decode prog_8_method_2_code 103 = .ok (.iload_n 1, 1) := by decide +kernel
theorem d180_104 : decode prog_8_method_2_code 104 = .ok (.invokevirtual 37, 3) := by decide +kernel
theorem d180_107 : decode prog_8_method_2_code 107 = .ok (.ireturn, 1) := by decide +kernel
theorem d180_108 : decode prog_8_method_2_code 108 = .ok (.aload_n 0, 1) := by decide +kernel
theorem d180_109 : decode prog_8_method_2_code 109 = .ok (.iload_n 1, 1) := by decide +kernel
theorem d180_110 : decode prog_8_method_2_code 110 = .ok (.invokevirtual 40, 3) := by decide +kernel
theorem d180_113 : decode prog_8_method_2_code 113 = .ok (.ireturn, 1) := by decide +kernel
theorem d180_114 : decode prog_8_method_2_code 114 = .ok (.aload_n 0, 1) := by decide +kernel
theorem d180_115 : decode prog_8_method_2_code 115 = .ok (.iload_n 1, 1) := by decide +kernel
theorem d180_116 : decode prog_8_method_2_code 116 = .ok (.invokevirtual 43, 3) := by decide +kernel
theorem d180_119 : decode prog_8_method_2_code 119 = .ok (.ireturn, 1) := by decide +kernel
theorem d180_120 : decode prog_8_method_2_code 120 = .ok (.aload_n 0, 1) := by decide +kernel
theorem d180_121 : decode prog_8_method_2_code 121 = .ok (.getfield 9, 3) := by decide +kernel
theorem d180_124 : decode prog_8_method_2_code 124 = .ok (.iload_n 1, 1) := by decide +kernel
theorem d180_125 : decode prog_8_method_2_code 125 = .ok (.iconst 1, 1) := by decide +kernel
theorem d180_126 : decode prog_8_method_2_code 126 = .ok (.iadd, 1) := by decide +kernel
theorem d180_127 : decode prog_8_method_2_code 127 = .ok (.invokevirtual 46, 3) := by decide +kernel
theorem d180_130 : decode prog_8_method_2_code 130 = .ok (.invokestatic 49, 3) := by decide +kernel
theorem d180_133 : decode prog_8_method_2_code 133 = .ok (.ifCond .eq 7, 3) := by decide +kernel
theorem d180_136 : decode prog_8_method_2_code 136 = .ok (.iconst 0, 1) := by decide +kernel
theorem d180_137 : decode prog_8_method_2_code 137 = .ok (.goto 5, 3) := by decide +kernel
theorem d180_140 : decode prog_8_method_2_code 140 = .ok (.bipush 34, 2) := by decide +kernel
theorem d180_142 : decode prog_8_method_2_code 142 = .ok (.ireturn, 1) := by decide +kernel
theorem d180_143 : decode prog_8_method_2_code 143 = .ok (.aload_n 0, 1) := by decide +kernel
theorem d180_144 : decode prog_8_method_2_code 144 = .ok (.iload_n 1, 1) := by decide +kernel
theorem d180_145 : decode prog_8_method_2_code 145 = .ok (.invokevirtual 55, 3) := by decide +kernel
theorem d180_148 : decode prog_8_method_2_code 148 = .ok (.ireturn, 1) := by decide +kernel
theorem d180_149 : decode prog_8_method_2_code 149 = .ok (.aload_n 0, 1) := by decide +kernel
theorem d180_150 : decode prog_8_method_2_code 150 = .ok (.iload_n 1, 1) := by decide +kernel
theorem d180_151 : decode prog_8_method_2_code 151 = .ok (.invokevirtual 58, 3) := by decide +kernel
theorem d180_154 : decode prog_8_method_2_code 154 = .ok (.ireturn, 1) := by decide +kernel
theorem d180_155 : decode prog_8_method_2_code 155 = .ok (.aload_n 0, 1) := by decide +kernel
theorem d180_156 : decode prog_8_method_2_code 156 = .ok (.getfield 9, 3) := by decide +kernel
theorem d180_159 : decode prog_8_method_2_code 159 = .ok (.iload_n 1, 1) := by decide +kernel
theorem d180_160 : decode prog_8_method_2_code 160 = .ok (.iconst (-1), 1) := by decide +kernel
theorem d180_161 : decode prog_8_method_2_code 161 = .ok (.invokevirtual 61, 3) := by decide +kernel
theorem d180_164 : decode prog_8_method_2_code 164 = .ok (.ifCond .eq 7, 3) := by decide +kernel
theorem d180_167 : decode prog_8_method_2_code 167 = .ok (.iconst 0, 1) := by decide +kernel
theorem d180_168 : decode prog_8_method_2_code 168 = .ok (.goto 5, 3) := by decide +kernel
theorem d180_171 : decode prog_8_method_2_code 171 = .ok (.bipush 37, 2) := by decide +kernel
theorem d180_173 : decode prog_8_method_2_code 173 = .ok (.ireturn, 1) := by decide +kernel
theorem d180_174 : decode prog_8_method_2_code 174 = .ok (.aload_n 0, 1) := by decide +kernel
theorem d180_175 : decode prog_8_method_2_code 175 = .ok (.getfield 15, 3) := by decide +kernel
theorem d180_178 : decode prog_8_method_2_code 178 = .ok (.sipush 156, 3) := by decide +kernel
theorem d180_181 : decode prog_8_method_2_code 181 = .ok (.invokevirtual 65, 3) := by decide +kernel
theorem d180_184 : decode prog_8_method_2_code 184 = .ok (.pop, 1) := by decide +kernel
theorem d180_185 : decode prog_8_method_2_code 185 = .ok (.iconst 0, 1) := by decide +kernel
theorem d180_186 : decode prog_8_method_2_code 186 = .ok (.ireturn, 1) := by decide +kernel
theorem d180_187 : decode prog_8_method_2_code 187 = .ok (.aload_n 0, 1) := by decide +kernel
theorem d180_188 : decode prog_8_method_2_code 188 = .ok (.iload_n 1, 1) := by decide +kernel
theorem d180_189 : decode prog_8_method_2_code 189 = .ok (.invokevirtual 68, 3) := by decide +kernel
theorem d180_192 : decode prog_8_method_2_code 192 = .ok (.ireturn, 1) := by decide +kernel
theorem d180_193 : decode prog_8_method_2_code 193 = .ok (.aload_n 0, 1) := by decide +kernel
theorem d180_194 : decode prog_8_method_2_code 194 = .ok (.getfield 9, 3) := by decide +kernel
theorem d180_197 : decode prog_8_method_2_code 197 = .ok (.iload_n 1, 1) := by decide +kernel
theorem d180_198 : decode prog_8_method_2_code 198 = .ok (.iconst 1, 1) := by decide +kernel
theorem d180_199 : decode prog_8_method_2_code 199 = .ok (.iadd, 1) := by decide +kernel
theorem d180_200 : decode prog_8_method_2_code 200 = .ok (.invokevirtual 46, 3) := by decide +kernel
theorem d180_203 : decode prog_8_method_2_code 203 = .ok (.ifCond .ne 7, 3) := by decide +kernel
theorem d180_206 : decode prog_8_method_2_code 206 = .ok (.iconst 0, 1) := by decide +kernel
theorem d180_207 : decode prog_8_method_2_code 207 = .ok (.goto 5, 3) := by decide +kernel
theorem d180_210 : decode prog_8_method_2_code 210 = .ok (.bipush 41, 2) := by decide +kernel
theorem d180_212 : decode prog_8_method_2_code 212 = .ok (.ireturn, 1) := by decide +kernel
theorem d180_213 : decode prog_8_method_2_code 213 = .ok (.aload_n 0, 1) := by decide +kernel
theorem d180_214 : decode prog_8_method_2_code 214 = .ok (.iload_n 1, 1) := by decide +kernel
theorem d180_215 : decode prog_8_method_2_code 215 = .ok (.invokevirtual 71, 3) := by decide +kernel
theorem d180_218 : decode prog_8_method_2_code 218 = .ok (.ireturn, 1) := by decide +kernel
theorem d180_219 : decode prog_8_method_2_code 219 = .ok (.aload_n 0, 1) := by decide +kernel
theorem d180_220 : decode prog_8_method_2_code 220 = .ok (.iload_n 1, 1) := by decide +kernel
theorem d180_221 : decode prog_8_method_2_code 221 = .ok (.invokevirtual 74, 3) := by decide +kernel
theorem d180_224 : decode prog_8_method_2_code 224 = .ok (.ireturn, 1) := by decide +kernel
theorem d180_225 : decode prog_8_method_2_code 225 = .ok (.iconst 0, 1) := by decide +kernel
theorem d180_226 : decode prog_8_method_2_code 226 = .ok (.ireturn, 1) := by decide +kernel
theorem m180 : pm_m 180 = some (⟨"TypeRules$Statements", "faultOf", "(I)I"⟩, prog_8_method_2_code, 2, (some FieldType.int), 9, 1, 10) := rfl
theorem d144_0 : decode prog_7_method_6_code 0 = .ok (.aload_n 0, 1) := by decide +kernel
theorem d144_1 : decode prog_7_method_6_code 1 = .ok (.getfield 9, 3) := by decide +kernel
theorem d144_4 : decode prog_7_method_6_code 4 = .ok (.iload_n 1, 1) := by decide +kernel
theorem d144_5 : decode prog_7_method_6_code 5 = .ok (.invokevirtual 95, 3) := by decide +kernel
theorem d144_8 : decode prog_7_method_6_code 8 = .ok (.istore_n 2, 1) := by decide +kernel
theorem d144_9 : decode prog_7_method_6_code 9 = .ok (.iload_n 2, 1) := by decide +kernel
theorem d144_10 : decode prog_7_method_6_code 10 = .ok (.tableswitch 161 0 10 #[58, 63, 161, 161, 89, 95, 101, 107, 113, 131, 137], 58) := by decide +kernel
theorem d144_68 : decode prog_7_method_6_code 68 = .ok (.aload_n 0, 1) := by decide +kernel
theorem d144_69 : decode prog_7_method_6_code 69 = .ok (.invokevirtual 142, 3) := by decide +kernel
theorem d144_72 : decode prog_7_method_6_code 72 = .ok (.ireturn, 1) := by decide +kernel
theorem d144_73 : decode prog_7_method_6_code 73 = .ok (.aload_n 0, 1) := by decide +kernel
theorem d144_74 : decode prog_7_method_6_code 74 = .ok (.getfield 19, 3) := by decide +kernel
theorem d144_77 : decode prog_7_method_6_code 77 = .ok (.aload_n 0, 1) := by decide +kernel
theorem d144_78 : decode prog_7_method_6_code 78 = .ok (.getfield 19, 3) := by decide +kernel
theorem d144_81 : decode prog_7_method_6_code 81 = .ok (.invokevirtual 129, 3) := by decide +kernel
theorem d144_84 : decode prog_7_method_6_code 84 = .ok (.invokevirtual 145, 3) := by decide +kernel
theorem d144_87 : decode prog_7_method_6_code 87 = .ok (.bipush 8, 2) := by decide +kernel
theorem d144_89 : decode prog_7_method_6_code 89 = .ok (.if_icmp .le 8, 3) := by decide +kernel
theorem d144_92 : decode prog_7_method_6_code 92 = .ok (.bipush 44, 2) := by decide +kernel
theorem d144_94 : decode prog_7_method_6_code 94 = .ok (.goto 4, 3) := by decide +kernel
theorem d144_97 : decode prog_7_method_6_code 97 = .ok (.iconst 0, 1) := by decide +kernel
theorem d144_98 : decode prog_7_method_6_code 98 = .ok (.ireturn, 1) := by decide +kernel
theorem d144_99 : decode prog_7_method_6_code 99 = .ok (.aload_n 0, 1) := by decide +kernel
theorem d144_100 : decode prog_7_method_6_code 100 = .ok (.iload_n 1, 1) := by decide +kernel
theorem d144_101 : decode prog_7_method_6_code 101 = .ok (.invokevirtual 148, 3) := by decide +kernel
theorem d144_104 : decode prog_7_method_6_code 104 = .ok (.ireturn, 1) := by decide +kernel
theorem d144_105 : decode prog_7_method_6_code 105 = .ok (.aload_n 0, 1) := by decide +kernel
theorem d144_106 : decode prog_7_method_6_code 106 = .ok (.iload_n 1, 1) := by decide +kernel
theorem d144_107 : decode prog_7_method_6_code 107 = .ok (.invokevirtual 151, 3) := by decide +kernel
theorem d144_110 : decode prog_7_method_6_code 110 = .ok (.ireturn, 1) := by decide +kernel
theorem d144_111 : decode prog_7_method_6_code 111 = .ok (.aload_n 0, 1) := by decide +kernel
theorem d144_112 : decode prog_7_method_6_code 112 = .ok (.iload_n 1, 1) := by decide +kernel
theorem d144_113 : decode prog_7_method_6_code 113 = .ok (.invokevirtual 154, 3) := by decide +kernel
theorem d144_116 : decode prog_7_method_6_code 116 = .ok (.ireturn, 1) := by decide +kernel
theorem d144_117 : decode prog_7_method_6_code 117 = .ok (.aload_n 0, 1) := by decide +kernel
theorem d144_118 : decode prog_7_method_6_code 118 = .ok (.iload_n 1, 1) := by decide +kernel
theorem d144_119 : decode prog_7_method_6_code 119 = .ok (.invokevirtual 157, 3) := by decide +kernel
theorem d144_122 : decode prog_7_method_6_code 122 = .ok (.ireturn, 1) := by decide +kernel
theorem d144_123 : decode prog_7_method_6_code 123 = .ok (.aload_n 0, 1) := by decide +kernel
theorem d144_124 : decode prog_7_method_6_code 124 = .ok (.getfield 9, 3) := by decide +kernel
theorem d144_127 : decode prog_7_method_6_code 127 = .ok (.iload_n 1, 1) := by decide +kernel
theorem d144_128 : decode prog_7_method_6_code 128 = .ok (.aload_n 0, 1) := by decide +kernel
theorem d144_129 : decode prog_7_method_6_code 129 = .ok (.getfield 9, 3) := by decide +kernel
theorem d144_132 : decode prog_7_method_6_code 132 = .ok (.iload_n 1, 1) := by decide +kernel
theorem d144_133 : decode prog_7_method_6_code 133 = .ok (.invokevirtual 110, 3) := by decide +kernel
theorem d144_136 : decode prog_7_method_6_code 136 = .ok (.invokevirtual 160, 3) := by decide +kernel
theorem d144_139 : decode prog_7_method_6_code 139 = .ok (.iconst 0, 1) := by decide +kernel
theorem d144_140 : decode prog_7_method_6_code 140 = .ok (.ireturn, 1) := by decide +kernel
theorem d144_141 : decode prog_7_method_6_code 141 = .ok (.aload_n 0, 1) := by decide +kernel
theorem d144_142 : decode prog_7_method_6_code 142 = .ok (.iload_n 1, 1) := by decide +kernel
theorem d144_143 : decode prog_7_method_6_code 143 = .ok (.invokevirtual 163, 3) := by decide +kernel
theorem d144_146 : decode prog_7_method_6_code 146 = .ok (.ireturn, 1) := by decide +kernel
theorem d144_147 : decode prog_7_method_6_code 147 = .ok (.aload_n 0, 1) := by decide +kernel
theorem d144_148 : decode prog_7_method_6_code 148 = .ok (.iconst 1, 1) := by decide +kernel
theorem d144_149 : decode prog_7_method_6_code 149 = .ok (.invokevirtual 166, 3) := by decide +kernel
theorem d144_152 : decode prog_7_method_6_code 152 = .ok (.ifCond .ne 12, 3) := by decide +kernel
theorem d144_155 : decode prog_7_method_6_code 155 = .ok (.aload_n 0, 1) := by decide +kernel
theorem d144_156 : decode prog_7_method_6_code 156 = .ok (.iload_n 1, 1) := by decide +kernel
theorem d144_157 : decode prog_7_method_6_code 157 = .ok (.invokevirtual 170, 3) := by decide +kernel
theorem d144_160 : decode prog_7_method_6_code 160 = .ok (.iconst (-1), 1) := by decide +kernel
theorem d144_161 : decode prog_7_method_6_code 161 = .ok (.if_icmp .ne 8, 3) := by decide +kernel
theorem d144_164 : decode prog_7_method_6_code 164 = .ok (.bipush 17, 2) := by decide +kernel
theorem d144_166 : decode prog_7_method_6_code 166 = .ok (.goto 4, 3) := by decide +kernel
theorem d144_169 : decode prog_7_method_6_code 169 = .ok (.iconst 0, 1) := by decide +kernel
theorem d144_170 : decode prog_7_method_6_code 170 = .ok (.ireturn, 1) := by decide +kernel
theorem d144_171 : decode prog_7_method_6_code 171 = .ok (.iload_n 2, 1) := by decide +kernel
theorem d144_172 : decode prog_7_method_6_code 172 = .ok (.bipush 30, 2) := by decide +kernel
theorem d144_174 : decode prog_7_method_6_code 174 = .ok (.if_icmp .lt 14, 3) := by decide +kernel
theorem d144_177 : decode prog_7_method_6_code 177 = .ok (.aload_n 0, 1) := by decide +kernel
theorem d144_178 : decode prog_7_method_6_code 178 = .ok (.getfield 37, 3) := by decide +kernel
theorem d144_181 : decode prog_7_method_6_code 181 = .ok (.iload_n 1, 1) := by decide +kernel
theorem d144_182 : decode prog_7_method_6_code 182 = .ok (.invokevirtual 173, 3) := by decide +kernel
theorem d144_185 : decode prog_7_method_6_code 185 = .ok (.goto 11, 3) := by decide +kernel
theorem d144_188 : decode prog_7_method_6_code 188 = .ok (.aload_n 0, 1) := by decide +kernel
theorem d144_189 : decode prog_7_method_6_code 189 = .ok (.getfield 44, 3) := by decide +kernel
theorem d144_192 : decode prog_7_method_6_code 192 = .ok (.iload_n 1, 1) := by decide +kernel
theorem d144_193 : decode prog_7_method_6_code 193 = .ok (.invokevirtual 176, 3) := by decide +kernel
theorem d144_196 : decode prog_7_method_6_code 196 = .ok (.ireturn, 1) := by decide +kernel
theorem m144 : pm_m 144 = some (⟨"TypeRules$Rules", "leave", "(I)I"⟩, prog_7_method_6_code, 3, (some FieldType.int), 7, 1, 8) := rfl
/-! A NODE IS LEFT: the rule of each kind -/
section RLO
variable {l : List pg_N} {A : rl_A} {i : Nat}
theorem rl_o1 (hk : rl_k l i = 1) : rl_out l A i = (if 8 < rl_nin (rl_cur A) then 44 else 0, A) := by
  unfold rl_out
  dsimp only
  rw [hk]
  rfl
theorem rl_o4 (hk : rl_k l i = 4) : rl_out l A i = (if ((rl_cur A).1 = 3 ∧ rl_v l i ≠ 0) ∨ ((rl_cur A).1 = 1 ∧ rl_v l i = 2) then 13 else 0, A) := by
  unfold rl_out
  dsimp only
  rw [hk]
  rfl
theorem rl_o5 (hk : rl_k l i = 5) : rl_out l A i = rl_decl l A i := by
  unfold rl_out
  dsimp only
  rw [hk]
  rfl
theorem rl_o7 (hk : rl_k l i = 7) : rl_out l A i = (if (rl_cur A).1 ≠ 3 ∨ 1 < i - rl_par l i - 1 ∨ ((rl_cur A).2.2.2.2.any (fun v => decide (v.2.2.2.2.1 = rl_v l i))) = true then 14 else 0, rl_up1 A ((rl_cur A).1, (rl_cur A).2.1, (rl_cur A).2.2.1, (rl_cur A).2.2.2.1, rl_atp (rl_v l i) (rl_cur A).2.2.2.2)) := by
  unfold rl_out
  dsimp only
  rw [hk]
  rfl
theorem rl_o8 (hk : rl_k l i = 8) : rl_out l A i = (0, rl_ty A i (rl_v l i)) := by
  unfold rl_out
  dsimp only
  rw [hk]
  rfl
theorem rl_o9 (hk : rl_k l i = 9) : rl_out l A i = (if (rl_cur A).1 = 1 ∨ rl_k l (i + 1) = 31 ∨ rl_k l (i + 2) = 31 ∨ rl_many l i < 1 ∨ 256 < rl_many l i then 16 else 0, A) := by
  unfold rl_out
  dsimp only
  rw [hk]
  rfl
theorem rl_o10 (hk : rl_k l i = 10) : rl_out l A i = (if (rl_cur A).1 = 1 ∨ rl_inst A.1 (rl_v l i) = none then 17 else 0, A) := by
  unfold rl_out
  dsimp only
  rw [hk]
  rfl
theorem rl_o12 (hk : rl_k l i = 12) : rl_out l A i = (if rl_asg l A i (rl_v l (i + 1)) ≠ 0 then rl_asg l A i (rl_v l (i + 1)) else if rl_fits (A.2.1 ((rl_c l i).getD 1 0)) (A.2.1 (i + 1)) = true then 0 else 31, A) := by
  unfold rl_out
  dsimp only
  rw [hk]
  rfl
theorem rl_o13 (hk : rl_k l i = 13) : rl_out l A i = (rl_srt A (rl_v l i) 2, rl_me (rl_ce A i (nI (rl_var A (rl_v l i)).2.2.2.2.2)) i (rl_mean (rl_var A (rl_v l i)).2.2.1.toNatClampNeg)) := by
  unfold rl_out
  dsimp only
  rw [hk]
  rfl
theorem rl_o14 (hk : rl_k l i = 14) : rl_out l A i = rl_par14 l A i := by
  unfold rl_out
  dsimp only
  rw [hk]
  rfl
theorem rl_o15 (hk : rl_k l i = 15) : rl_out l A i = (if ((rl_c l i).all (fun c => rl_k l c == 11 || decide (A.2.1 c = 0))) = true then 0 else 34, A) := by
  unfold rl_out
  dsimp only
  rw [hk]
  rfl
theorem rl_o16 (hk : rl_k l i = 16) : rl_out l A i = (if rl_num (A.2.1 (i + 1)) = true then 0 else 34, A) := by
  unfold rl_out
  dsimp only
  rw [hk]
  rfl
theorem rl_o18 (hk : rl_k l i = 18) : rl_out l A i = (if rl_k l (i + 1) = 31 ∨ rl_k l ((rl_c l i).getLastD 0) = 31 ∨ rl_v l ((rl_c l i).getLastD 0) < rl_v l (i + 1) then 35 else 0, A) := by
  unfold rl_out
  dsimp only
  rw [hk]
  rfl
theorem rl_o19 (hk : rl_k l i = 19) : rl_out l A i = rl_for l A i := by
  unfold rl_out
  dsimp only
  rw [hk]
  rfl
theorem rl_o20 (hk : rl_k l i = 20) : rl_out l A i = (if ((rl_up l i).any (fun j => rl_k l j == 19)) = true then 0 else 37, A) := by
  unfold rl_out
  dsimp only
  rw [hk]
  rfl
theorem rl_o22 (hk : rl_k l i = 22) : rl_out l A i = (0, rl_tk A 156) := by
  unfold rl_out
  dsimp only
  rw [hk]
  rfl
theorem rl_o23 (hk : rl_k l i = 23) : rl_out l A i = (rl_rung l i, A) := by
  unfold rl_out
  dsimp only
  rw [hk]
  rfl
theorem rl_o25 (hk : rl_k l i = 25) : rl_out l A i = (if A.2.1 (i + 1) = 0 then 0 else 41, A) := by
  unfold rl_out
  dsimp only
  rw [hk]
  rfl
theorem rl_o28 (hk : rl_k l i = 28) : rl_out l A i = (if i + rl_z l i ≠ rl_par l i + rl_z l (rl_par l i) then 39 else if A.2.1 (i + 1) ≠ 0 then 41 else rl_asg l A i (rl_v l (i + 1)), A) := by
  unfold rl_out
  dsimp only
  rw [hk]
  rfl
theorem rl_o29 (hk : rl_k l i = 29) : rl_out l A i = (if rl_par l i + rl_z l (rl_par l i) = rl_par l (rl_par l i) + rl_z l (rl_par l (rl_par l i)) then 40 else 0, A) := by
  unfold rl_out
  dsimp only
  rw [hk]
  rfl
theorem rl_o30 (hk : rl_k l i = 30) : rl_out l A i = (0, rl_ty A i (if (rl_v l i).toInt ≤ 32767 then 1 else 2)) := by
  unfold rl_out
  dsimp only
  rw [hk]
  rfl
theorem rl_o31 (hk : rl_k l i = 31) : rl_out l A i = (0, rl_ty A i 0) := by
  unfold rl_out
  dsimp only
  rw [hk]
  rfl
theorem rl_o32 (hk : rl_k l i = 32) : rl_out l A i = (if rl_srt A (rl_v l i) 1 ≠ 0 then rl_srt A (rl_v l i) 1 else if rl_num (A.2.1 (i + 1)) = true then 0 else 22, rl_ce (rl_ty A i (rl_var A (rl_v l i)).2.2.1) i (nI (rl_var A (rl_v l i)).2.2.2.2.2)) := by
  unfold rl_out
  dsimp only
  rw [hk]
  rfl
theorem rl_o33 (hk : rl_k l i = 33) : rl_out l A i = (if rl_srt A (rl_v l i) 2 ≠ 0 then (rl_srt A (rl_v l i) 2, A) else match rl_pin A.1 (rl_var A (rl_v l i)).2.2.1.toNatClampNeg (rl_v l (i + 1)) with | none => (23, A) | some (p, t, c) => if p ≠ 2 then (23, A) else (0, rl_ce (rl_ty A i t) i (nI ((rl_var A (rl_v l i)).2.2.2.2.2 + c)))) := by
  unfold rl_out
  dsimp only
  rw [hk]
  rfl
theorem rl_o34 (hk : rl_k l i = 34) : rl_out l A i = rl_call l A i := by
  unfold rl_out
  dsimp only
  rw [hk]
  rfl
theorem rl_o35 (hk : rl_k l i = 35) : rl_out l A i = (if (if (rl_v l i).toInt ≤ 4 then rl_com (A.2.1 (i + 1)) (A.2.1 ((rl_c l i).getD 1 0)) else rl_wid (A.2.1 (i + 1)) (A.2.1 ((rl_c l i).getD 1 0))) = -1 then (27, A) else (0, rl_ty A i (if 3 ≤ (rl_v l i).toInt ∧ (rl_v l i).toInt ≤ 8 then 0 else (if (rl_v l i).toInt ≤ 4 then rl_com (A.2.1 (i + 1)) (A.2.1 ((rl_c l i).getD 1 0)) else rl_wid (A.2.1 (i + 1)) (A.2.1 ((rl_c l i).getD 1 0)))))) := by
  unfold rl_out
  dsimp only
  rw [hk]
  rfl
theorem rl_o36 (hk : rl_k l i = 36) : rl_out l A i = (if rl_v l i = 0 ∧ rl_num (A.2.1 (i + 1)) = false then 28 else 0, rl_ty A i (A.2.1 (i + 1))) := by
  unfold rl_out
  dsimp only
  rw [hk]
  rfl
theorem rl_o6 (hk : rl_k l i = 6) : rl_out l A i = if rl_k l (rl_par l i) = 5 then (if (rl_find (rl_cur A).2.2.2.2 (rl_v l i)).isSome = true ∨ rl_taken A (rl_v l i) = true then (12, A) else (0, rl_dcl A (rl_v l i) (rl_v l (rl_par l (rl_par l i))).toNatClampNeg)) else if rl_k l (rl_par l i) = 33 then (0, A) else (rl_srt A (rl_v l i) 0, rl_ce (rl_ty A i (rl_var A (rl_v l i)).2.2.1) i (nI (rl_var A (rl_v l i)).2.2.2.2.2)) := by
  unfold rl_out
  dsimp only
  rw [hk]
  rfl
theorem rl_o0 (hk : rl_k l i = 0) : rl_out l A i = (if A.1 = [] ∨ (rl_cur A).1 ≠ 3 then 10 else if 8192 < rl_all A.1 then 42 else 0, A) := by
  unfold rl_out
  dsimp only
  rw [hk]
  rfl
theorem rl_on (hk : rl_k l i = 2 ∨ rl_k l i = 3 ∨ rl_k l i = 11 ∨ rl_k l i = 17 ∨ rl_k l i = 21 ∨ rl_k l i = 24 ∨ rl_k l i = 26 ∨ rl_k l i = 27) : rl_out l A i = (0, A) := by
  unfold rl_out
  dsimp only
  rcases hk with q | q | q | q | q | q | q | q <;> (rw [q]; rfl)
end RLO
/-- what is known as a node is left -/
def cx_L (l : List pg_N) (A : rl_A) (i : Nat) : Prop :=
  pv_B A.1 ∧ A.1 ≠ [] ∧ ((12 ≤ rl_k l i ∧ rl_k l i ≤ 29) ∨ 32 ≤ rl_k l i → rl_setl A) ∧
  (rl_k l i = 6 → ¬ rl_k l (rl_par l i) = 5 → ¬ rl_k l (rl_par l i) = 33 → rl_setl A) ∧
  (rl_k l i = 6 → rl_k l (rl_par l i) = 5 → (cv_L A.1).length < 4128) ∧
  (rl_k l i = 7 → ∃ v0 vs, (rl_cur A).2.2.2.2 = v0 :: vs ∧ v0.2.1 = 3 ∧ v0.2.2.2.2.1 = -1) ∧
  (rl_k l i = 5 → ∀ m hp y cs, lg_D l i m hp y cs → m ≤ (rl_cur A).2.2.2.2.length ∧ (∀ (k : Nat) (v : rl_V), k < m → (rl_cur A).2.2.2.2[k]? = some v → v.2.1 = 3 ∧ v.2.2.2.2.1 = rl_dsp l i m hp) ∧ (∀ (k : Nat) (v : rl_V), k < m → (rl_cur A).2.2.2.2[k]? = some v → v.2.2.2.1 = (rl_v l (rl_par l i)).toNatClampNeg) ∧ (rl_k l y = 9 → 1 ≤ rl_many l y ∧ rl_many l y ≤ 256) ∧ (rl_k l y = 10 → (rl_inst A.1 (rl_v l y)).isSome = true) ∧ (rl_cur A).2.2.2.1 + m * rl_zz l A.1 y < 2 ^ 28) ∧
  (∀ b y, rl_blk A.1 b = some y → y.1 = 1 → ¬ rl_v l (y.2.2.1 + 1) = -1)
theorem lg_nm {l : List pg_N} {NN i : Nat} (hG : lg_G l NN) (hi : i < l.length) (hk : rp_nk (rl_k l i) = true) : 0 ≤ (rl_v l i).toInt ∧ (rl_v l i).toInt < NN := by
  have := (lg_V hG hi).2.1 hk
  omega
theorem cr166 {d : Nat} {l : List pg_N} {NN nx : Nat} {σ0 σ : pm_S} {A : rl_A} {Q : Option Value → pm_S → Prop} {i : Nat} (hG : lg_G l NN) (h : cr_I l NN σ0 σ nx A) (hi : i < l.length) (hn : i < nx) (cx : cx_L l A i) (hk : 30 ≤ rl_k l i) (hQ : ∀ σ' A', cr_I l NN σ0 σ' nx A' → ((rl_out l A i).1 = 0 → A' = (rl_out l A i).2) → Q (some (.int (nI (rl_out l A i).1))) σ') : pm_call pm_Y0 (d + 5) 166 [.ref 8, .int (nI i)] σ Q := by
  obtain ⟨hp, hB, x1, x2, x3, x4, x5, x6⟩ := cx
  have kl := (lg_V hG hi).1
  have hS := lg_S hG hi
  refine wq_m m166 (Nat.le_of_ble_eq_true rfl) (by decide) rfl ?_
  refine wq_l 1 d166_0 rfl rfl rfl rfl ?_
  refine wq_gr (ci := 8) (j := 0) (q := 3) 4 d166_1 rfl rfl rfl rfl ?_
  refine wq_l 5 d166_4 rfl rfl rfl rfl ?_
  refine wq_v 8 [_] d166_5 rfl rfl m65 rfl rfl (Nat.le_of_ble_eq_true rfl) rfl (ck65 (cr_S h) (by omega) ?_)
  refine wq_tw [(30, 52), (31, 81), (32, 92), (33, 98), (34, 104), (35, 110), (36, 116)] 122 d166_8 (by decide) (List.forall_mem_cons.mpr ⟨fun e8 => ?_, List.forall_mem_cons.mpr ⟨fun e8 => ?_, List.forall_mem_cons.mpr ⟨fun e8 => ?_, List.forall_mem_cons.mpr ⟨fun e8 => ?_, List.forall_mem_cons.mpr ⟨fun e8 => ?_, List.forall_mem_cons.mpr ⟨fun e8 => ?_, List.forall_mem_cons.mpr ⟨fun e8 => ?_, fun _ h => absurd h List.not_mem_nil⟩⟩⟩⟩⟩⟩⟩) (fun e8 => ?_)
  · -- case 30
    have e8 : rl_k l i = 30 := hp_inj (by omega) (by decide) e8
    rw [rl_o30 e8] at hQ
    rw [e8] at hS
    refine wq_l 53 d166_52 rfl rfl rfl rfl ?_
    refine wq_gr (ci := 8) (j := 0) (q := 3) 56 d166_53 rfl rfl rfl rfl ?_
    refine wq_l 57 d166_56 rfl rfl rfl rfl ?_
    refine wq_l 58 d166_57 rfl rfl rfl rfl ?_
    refine wq_gr (ci := 8) (j := 0) (q := 3) 61 d166_58 rfl rfl rfl rfl ?_
    refine wq_l 62 d166_61 rfl rfl rfl rfl ?_
    refine wq_v 65 [_] d166_62 rfl rfl m66 rfl rfl (Nat.le_of_ble_eq_true rfl) rfl (ck66 (cr_S h) (by omega) ?_)
    refine wq_k 68 32767 d166_65 (by decide) rfl ?_
    refine wq_b 75 71 d166_68 rfl (by decide) rfl (fun c68 => ?_) (fun c68 => ?_)
    · -- pc 75
      refine wq_k 76 2 d166_75 (by decide) rfl ?_
      refine wq_v 79 [_, _] d166_76 rfl rfl m70 rfl rfl (Nat.le_of_ble_eq_true rfl) rfl (ck70 h (by omega) (fun σ76 h76 => ?_))
      refine wq_k 80 0 d166_79 (by decide) rfl ?_
      refine wq_ri d166_80 (rfl) ?_
      refine hQ _ _ h76 (fun _ => ?_)
      rw [if_neg (by rw [i_lt] at c68; have c68 : (32767 : Int) < _ := c68; omega)]
    · -- pc 71
      refine wq_k 72 1 d166_71 (by decide) rfl ?_
      refine wq_g 76 d166_72 (by decide) ?_
      refine wq_v 79 [_, _] d166_76 rfl rfl m70 rfl rfl (Nat.le_of_ble_eq_true rfl) rfl (ck70 h (by omega) (fun σ76 h76 => ?_))
      refine wq_k 80 0 d166_79 (by decide) rfl ?_
      refine wq_ri d166_80 (rfl) ?_
      refine hQ _ _ h76 (fun _ => ?_)
      rw [if_pos (by rw [i_lt] at c68; have c68 : ¬ (32767 : Int) < _ := c68; omega)]
  · -- case 31
    have e8 : rl_k l i = 31 := hp_inj (by omega) (by decide) e8
    rw [rl_o31 e8] at hQ
    rw [e8] at hS
    refine wq_l 82 d166_81 rfl rfl rfl rfl ?_
    refine wq_gr (ci := 8) (j := 0) (q := 3) 85 d166_82 rfl rfl rfl rfl ?_
    refine wq_l 86 d166_85 rfl rfl rfl rfl ?_
    refine wq_k 87 0 d166_86 (by decide) rfl ?_
    refine wq_v 90 [_, _] d166_87 rfl rfl m70 rfl rfl (Nat.le_of_ble_eq_true rfl) rfl (ck70 h (by omega) (fun σ87 h87 => ?_))
    refine wq_k 91 0 d166_90 (by decide) rfl ?_
    refine wq_ri d166_91 (rfl) ?_
    exact hQ _ _ h87 (fun _ => rfl)
  · -- case 32
    have e8 : rl_k l i = 32 := hp_inj (by omega) (by decide) e8
    rw [rl_o32 e8] at hQ
    rw [e8] at hS
    have hx := lg_nm hG hi (by rw [e8]; rfl)
    have hs := x1 (by omega)
    obtain ⟨ee, eE, _⟩ : ∃ e, (rl_c l i).map (rl_k l) = [e] ∧ sh_E e := hS
    have hi2 := (lg_1 hG hi eE).1
    refine wq_l 93 d166_92 rfl rfl rfl rfl ?_
    refine wq_l 94 d166_93 rfl rfl rfl rfl ?_
    refine wq_v 97 [_] d166_94 rfl rfl m167 rfl rfl (Nat.le_of_ble_eq_true rfl) rfl (cr167 h hp hB hs hi2 hx (fun σ94 A94 h94 g94 => ?_))
    refine wq_ri d166_97 (rfl) ?_
    exact hQ _ _ h94 g94
  · -- case 33
    have e8 : rl_k l i = 33 := hp_inj (by omega) (by decide) e8
    rw [rl_o33 e8] at hQ
    rw [e8] at hS
    have hx := lg_nm hG hi (by rw [e8]; rfl)
    have hs := x1 (by omega)
    have eE : (rl_c l i).map (rl_k l) = [6] := hS
    obtain ⟨hi2, _, k6, _⟩ := lg_1 hG hi eE
    have hx2 := lg_nm hG hi2 (by rw [k6]; rfl)
    refine wq_l 99 d166_98 rfl rfl rfl rfl ?_
    refine wq_l 100 d166_99 rfl rfl rfl rfl ?_
    refine wq_v 103 [_] d166_100 rfl rfl m169 rfl rfl (Nat.le_of_ble_eq_true rfl) rfl (cr169 h hp hB hs hi2 hx hx2 (fun σ100 A100 h100 g100 => ?_))
    refine wq_ri d166_103 (rfl) ?_
    exact hQ _ _ h100 g100
  · -- case 34
    have e8 : rl_k l i = 34 := hp_inj (by omega) (by decide) e8
    rw [rl_o34 e8] at hQ
    rw [e8] at hS
    have hx := lg_nm hG hi (by rw [e8]; rfl)
    refine wq_l 105 d166_104 rfl rfl rfl rfl ?_
    refine wq_l 106 d166_105 rfl rfl rfl rfl ?_
    refine wq_v 109 [_] d166_106 rfl rfl m170 rfl rfl (Nat.le_of_ble_eq_true rfl) rfl (cr170 hG h hp hB hi hx x6 (fun σ106 A106 h106 g106 => ?_))
    refine wq_ri d166_109 (rfl) ?_
    exact hQ _ _ h106 g106
  · -- case 35
    have e8 : rl_k l i = 35 := hp_inj (by omega) (by decide) e8
    rw [rl_o35 e8] at hQ
    rw [e8] at hS
    obtain ⟨ea, eb, eE, _⟩ : ∃ a b, (rl_c l i).map (rl_k l) = [a, b] ∧ sh_E a ∧ sh_E b := hS
    obtain ⟨hi2, hi3, hc, _⟩ := lg_2 hG hi eE
    rw [hc] at hQ
    refine wq_l 111 d166_110 rfl rfl rfl rfl ?_
    refine wq_l 112 d166_111 rfl rfl rfl rfl ?_
    refine wq_v 115 [_] d166_112 rfl rfl m177 rfl rfl (Nat.le_of_ble_eq_true rfl) rfl (cr177 h hi2 hi3 (fun σ112 A112 h112 g112 => ?_))
    refine wq_ri d166_115 (rfl) ?_
    exact hQ _ _ h112 g112
  · -- case 36
    have e8 : rl_k l i = 36 := hp_inj (by omega) (by decide) e8
    rw [rl_o36 e8] at hQ
    rw [e8] at hS
    obtain ⟨ee, eE, _⟩ : ∃ e, (rl_c l i).map (rl_k l) = [e] ∧ sh_E e := hS
    have hi2 := (lg_1 hG hi eE).1
    refine wq_l 117 d166_116 rfl rfl rfl rfl ?_
    refine wq_l 118 d166_117 rfl rfl rfl rfl ?_
    refine wq_v 121 [_] d166_118 rfl rfl m178 rfl rfl (Nat.le_of_ble_eq_true rfl) rfl (cr178 h hi2 (fun σ118 A118 h118 g118 => ?_))
    refine wq_ri d166_121 (rfl) ?_
    exact hQ _ _ h118 g118
  · -- default
    have w8_30 := e8 (30, 52) (by decide)
    have w8_31 := e8 (31, 81) (by decide)
    have w8_32 := e8 (32, 92) (by decide)
    have w8_33 := e8 (33, 98) (by decide)
    have w8_34 := e8 (34, 104) (by decide)
    have w8_35 := e8 (35, 110) (by decide)
    have w8_36 := e8 (36, 116) (by decide)
    exfalso
    have nk : ∀ k : Nat, (rl_k l i = k → nI (rl_k l i) = nI k) := fun k z => by rw [z]
    have q7 : rl_k l i = 30 ∨ rl_k l i = 31 ∨ rl_k l i = 32 ∨ rl_k l i = 33 ∨ rl_k l i = 34 ∨ rl_k l i = 35 ∨ rl_k l i = 36 := by omega
    rcases q7 with w | w | w | w | w | w | w
    · exact w8_30 (nk 30 w)
    · exact w8_31 (nk 31 w)
    · exact w8_32 (nk 32 w)
    · exact w8_33 (nk 33 w)
    · exact w8_34 (nk 34 w)
    · exact w8_35 (nk 35 w)
    · exact w8_36 (nk 36 w)
theorem cr180 {d : Nat} {l : List pg_N} {NN nx : Nat} {σ0 σ : pm_S} {A : rl_A} {Q : Option Value → pm_S → Prop} {i : Nat} (hG : lg_G l NN) (h : cr_I l NN σ0 σ nx A) (hi : i < l.length) (hn : i < nx) (h0r : rl_k l 0 = 0) (cx : cx_L l A i) (hk : rl_k l i = 2 ∨ rl_k l i = 3 ∨ (11 ≤ rl_k l i ∧ rl_k l i ≤ 29)) (hQ : ∀ σ' A', cr_I l NN σ0 σ' nx A' → ((rl_out l A i).1 = 0 → A' = (rl_out l A i).2) → Q (some (.int (nI (rl_out l A i).1))) σ') : pm_call pm_Y0 (d + 5) 180 [.ref 9, .int (nI i)] σ Q := by
  obtain ⟨hp, hB, x1, x2, x3, x4, x5, x6⟩ := cx
  have kl := (lg_V hG hi).1
  have hS := lg_S hG hi
  have hi0 : 12 ≤ rl_k l i → 0 < i := fun z => by
    rcases Nat.eq_zero_or_pos i with w | w
    · exfalso
      rw [w] at z
      have := h0r
      omega
    · exact w
  have hP : 12 ≤ rl_k l i → rl_par l i < i ∧ i ∈ rl_c l (rl_par l i) ∧ (rl_up l i).head? = some (rl_par l i) := fun z => lg_par hG hi (hi0 z)
  have hR : 12 ≤ rl_k l i → sh_r (rl_k l (rl_par l i)) (rl_k l i) = true := fun z => lg_Rp hG hi (hi0 z)
  refine wq_m m180 (Nat.le_of_ble_eq_true rfl) (by decide) rfl ?_
  refine wq_l 1 d180_0 rfl rfl rfl rfl ?_
  refine wq_gr (ci := 9) (j := 0) (q := 3) 4 d180_1 rfl rfl rfl rfl ?_
  refine wq_l 5 d180_4 rfl rfl rfl rfl ?_
  refine wq_v 8 [_] d180_5 rfl rfl m65 rfl rfl (Nat.le_of_ble_eq_true rfl) rfl (ck65 (cr_S h) (by omega) ?_)
  refine wq_tw [(12, 96), (13, 102), (14, 108), (15, 114), (16, 120), (17, 225), (18, 143), (19, 149), (20, 155), (21, 225), (22, 174), (23, 187), (24, 225), (25, 193), (26, 225), (27, 225), (28, 213), (29, 219)] 225 d180_8 (by decide) (List.forall_mem_cons.mpr ⟨fun e8 => ?_, List.forall_mem_cons.mpr ⟨fun e8 => ?_, List.forall_mem_cons.mpr ⟨fun e8 => ?_, List.forall_mem_cons.mpr ⟨fun e8 => ?_, List.forall_mem_cons.mpr ⟨fun e8 => ?_, List.forall_mem_cons.mpr ⟨fun e8 => ?_, List.forall_mem_cons.mpr ⟨fun e8 => ?_, List.forall_mem_cons.mpr ⟨fun e8 => ?_, List.forall_mem_cons.mpr ⟨fun e8 => ?_, List.forall_mem_cons.mpr ⟨fun e8 => ?_, List.forall_mem_cons.mpr ⟨fun e8 => ?_, List.forall_mem_cons.mpr ⟨fun e8 => ?_, List.forall_mem_cons.mpr ⟨fun e8 => ?_, List.forall_mem_cons.mpr ⟨fun e8 => ?_, List.forall_mem_cons.mpr ⟨fun e8 => ?_, List.forall_mem_cons.mpr ⟨fun e8 => ?_, List.forall_mem_cons.mpr ⟨fun e8 => ?_, List.forall_mem_cons.mpr ⟨fun e8 => ?_, fun _ h => absurd h List.not_mem_nil⟩⟩⟩⟩⟩⟩⟩⟩⟩⟩⟩⟩⟩⟩⟩⟩⟩⟩) (fun e8 => ?_)
  · -- case 12
    have e8 : rl_k l i = 12 := hp_inj (by omega) (by decide) e8
    rw [rl_o12 e8] at hQ
    rw [e8] at hS
    have hs := x1 (by omega)
    obtain ⟨p1, p2, p3⟩ := hP (by omega)
    have hR := hR (by omega)
    have kp := (lg_V hG (show rl_par l i < l.length by omega)).1
    rw [e8] at hR
    obtain ⟨ea, eb, eE, k6, _⟩ : ∃ a e, (rl_c l i).map (rl_k l) = [a, e] ∧ (a = 6 ∨ a = 32) ∧ sh_E e := hS
    obtain ⟨hi2, hi3, hc, ka, _⟩ := lg_2 hG hi eE
    rw [hc] at hQ
    have hx := lg_nm hG hi2 (by rw [ka]; rcases k6 with w | w <;> (rw [w]; rfl))
    refine wq_l 97 d180_96 rfl rfl rfl rfl ?_
    refine wq_l 98 d180_97 rfl rfl rfl rfl ?_
    refine wq_v 101 [_] d180_98 rfl rfl m181 rfl rfl (Nat.le_of_ble_eq_true rfl) rfl (cr181 hG h hB hs hi2 hi3 hn hx (fun σ98 A98 h98 g98 => ?_))
    refine wq_ri d180_101 (rfl) ?_
    exact hQ _ _ h98 g98
  · -- case 13
    have e8 : rl_k l i = 13 := hp_inj (by omega) (by decide) e8
    rw [rl_o13 e8] at hQ
    rw [e8] at hS
    have hs := x1 (by omega)
    obtain ⟨p1, p2, p3⟩ := hP (by omega)
    have hR := hR (by omega)
    have kp := (lg_V hG (show rl_par l i < l.length by omega)).1
    rw [e8] at hR
    have hx := lg_nm hG hi (by rw [e8]; rfl)
    refine wq_l 103 d180_102 rfl rfl rfl rfl ?_
    refine wq_l 104 d180_103 rfl rfl rfl rfl ?_
    refine wq_v 107 [_] d180_104 rfl rfl m184 rfl rfl (Nat.le_of_ble_eq_true rfl) rfl (cr184 h hp hB hs hi hx (fun σ104 A104 h104 g104 => ?_))
    refine wq_ri d180_107 (rfl) ?_
    exact hQ _ _ h104 g104
  · -- case 14
    have e8 : rl_k l i = 14 := hp_inj (by omega) (by decide) e8
    rw [rl_o14 e8] at hQ
    rw [e8] at hS
    have hs := x1 (by omega)
    obtain ⟨p1, p2, p3⟩ := hP (by omega)
    have hR := hR (by omega)
    have kp := (lg_V hG (show rl_par l i < l.length by omega)).1
    rw [e8] at hR
    have hx := lg_nm hG hi (by rw [e8]; rfl)
    obtain ⟨ee, eE, _⟩ : ∃ e, (rl_c l i).map (rl_k l) = [e] ∧ sh_E e := hS
    have hi2 := (lg_1 hG hi eE).1
    have k13 : rl_k l (rl_par l i) = 13 := sh_k14 _ (by omega) 14 (by decide) hR rfl
    have hx0 := lg_nm hG (show rl_par l i < l.length by omega) (by rw [k13]; rfl)
    refine wq_l 109 d180_108 rfl rfl rfl rfl ?_
    refine wq_l 110 d180_109 rfl rfl rfl rfl ?_
    refine wq_v 113 [_] d180_110 rfl rfl m185 rfl rfl (Nat.le_of_ble_eq_true rfl) rfl (cr185 hG h hp hB hs hi2 hn p3 rfl p1 p2 hx0 hx (fun σ110 A110 h110 g110 => ?_))
    refine wq_ri d180_113 (rfl) ?_
    exact hQ _ _ h110 g110
  · -- case 15
    have e8 : rl_k l i = 15 := hp_inj (by omega) (by decide) e8
    rw [rl_o15 e8] at hQ
    rw [e8] at hS
    have hs := x1 (by omega)
    obtain ⟨p1, p2, p3⟩ := hP (by omega)
    have hR := hR (by omega)
    have kp := (lg_V hG (show rl_par l i < l.length by omega)).1
    rw [e8] at hR
    refine wq_l 115 d180_114 rfl rfl rfl rfl ?_
    refine wq_l 116 d180_115 rfl rfl rfl rfl ?_
    refine wq_v 119 [_] d180_116 rfl rfl m186 rfl rfl (Nat.le_of_ble_eq_true rfl) rfl (cr186 hG h hi (fun σ116 A116 h116 g116 => ?_))
    refine wq_ri d180_119 (rfl) ?_
    exact hQ _ _ h116 g116
  · -- case 16
    have e8 : rl_k l i = 16 := hp_inj (by omega) (by decide) e8
    rw [rl_o16 e8] at hQ
    rw [e8] at hS
    have hs := x1 (by omega)
    obtain ⟨p1, p2, p3⟩ := hP (by omega)
    have hR := hR (by omega)
    have kp := (lg_V hG (show rl_par l i < l.length by omega)).1
    rw [e8] at hR
    obtain ⟨ee, uu, ii, eE, _⟩ : ∃ e u i', (rl_c l i).map (rl_k l) = e :: (u ++ i') ∧ sh_E e ∧ (∀ x ∈ u, x = 17) ∧ (i' = [] ∨ i' = [11]) := hS
    have hi2 := (lg_h hG hi eE).1
    refine wq_l 121 d180_120 rfl rfl rfl rfl ?_
    refine wq_gr (ci := 9) (j := 0) (q := 3) 124 d180_121 rfl rfl rfl rfl ?_
    refine wq_l 125 d180_124 rfl rfl rfl rfl ?_
    refine wq_k 126 1 d180_125 (by decide) rfl ?_
    refine wq_a 127 d180_126 rfl rfl ?_
    rw [nI_1]
    refine wq_v 130 [_] d180_127 rfl rfl m71 rfl rfl (Nat.le_of_ble_eq_true rfl) rfl (ck71 h (by omega) ?_)
    refine wq_vs 133 [_] d180_130 rfl rfl m168 rfl (Nat.le_of_ble_eq_true rfl) rfl (sp168 ?_)
    refine wq_b 140 136 d180_133 rfl (by decide) rfl (fun c133 => ?_) (fun c133 => ?_)
    · -- pc 140
      have f133 := b2z c133
      refine wq_k 142 34 d180_140 (by decide) rfl ?_
      refine wq_ri d180_142 (rfl) ?_
      rw [if_neg (fun z => absurd (f133.symm.trans z) (by decide))] at hQ
      exact hQ _ _ h (fun _ => rfl)
    · -- pc 136
      have f133 := b2n c133
      refine wq_k 137 0 d180_136 (by decide) rfl ?_
      refine wq_g 142 d180_137 (by decide) ?_
      refine wq_ri d180_142 (rfl) ?_
      rw [if_pos f133] at hQ
      exact hQ _ _ h (fun _ => rfl)
  · -- case 17
    have e8 : rl_k l i = 17 := hp_inj (by omega) (by decide) e8
    rw [rl_on (by omega)] at hQ
    refine wq_k 226 0 d180_225 (by decide) rfl ?_
    refine wq_ri d180_226 rfl ?_
    exact hQ _ _ h (fun _ => rfl)
  · -- case 18
    have e8 : rl_k l i = 18 := hp_inj (by omega) (by decide) e8
    rw [rl_o18 e8] at hQ
    rw [e8] at hS
    have hs := x1 (by omega)
    obtain ⟨p1, p2, p3⟩ := hP (by omega)
    have hR := hR (by omega)
    have kp := (lg_V hG (show rl_par l i < l.length by omega)).1
    rw [e8] at hR
    obtain ⟨el, hel1, hel2, hel3, hi2⟩ : ∃ el, el + 1 = i + rl_z l i ∧ el < l.length ∧ (rl_c l i).getLastD 0 = el ∧ i + 1 < l.length := by
      have hS : (∃ a, (rl_c l i).map (rl_k l) = [a] ∧ sh_K a) ∨ ∃ a b, (rl_c l i).map (rl_k l) = [a, b] ∧ sh_K a ∧ sh_K b := hS
      have zl := (rl_zc hG.1 hi).2
      rcases hS with ⟨a, e, ka⟩ | ⟨a, b, e, ka, kb⟩
      · obtain ⟨a1, a2, a3, a4⟩ := lg_1 hG hi e
        unfold sh_K at ka
        have z1 := lg_leaf hG a1 (by omega)
        exact ⟨i + 1, by omega, a1, by rw [a2]; rfl, a1⟩
      · obtain ⟨a1, a2, a3, a4, a5, a6⟩ := lg_2 hG hi e
        unfold sh_K at ka kb
        have z2 := lg_leaf hG a2 (by omega)
        exact ⟨i + 1 + rl_z l (i + 1), by omega, a2, by rw [a3]; rfl, a1⟩
    rw [hel3] at hQ
    refine wq_l 144 d180_143 rfl rfl rfl rfl ?_
    refine wq_l 145 d180_144 rfl rfl rfl rfl ?_
    refine wq_v 148 [_] d180_145 rfl rfl m187 rfl rfl (Nat.le_of_ble_eq_true rfl) rfl (cr187 hG h hi2 hel1 hel2 (fun σ145 A145 h145 g145 => ?_))
    refine wq_ri d180_148 (rfl) ?_
    exact hQ _ _ h145 g145
  · -- case 19
    have e8 : rl_k l i = 19 := hp_inj (by omega) (by decide) e8
    rw [rl_o19 e8] at hQ
    rw [e8] at hS
    have hs := x1 (by omega)
    obtain ⟨p1, p2, p3⟩ := hP (by omega)
    have hR := hR (by omega)
    have kp := (lg_V hG (show rl_par l i < l.length by omega)).1
    rw [e8] at hR
    have hx := lg_nm hG hi (by rw [e8]; rfl)
    refine wq_l 150 d180_149 rfl rfl rfl rfl ?_
    refine wq_l 151 d180_150 rfl rfl rfl rfl ?_
    refine wq_v 154 [_] d180_151 rfl rfl m188 rfl rfl (Nat.le_of_ble_eq_true rfl) rfl (cr188 hG h hp hB hs hi hn e8 hx (fun σ151 A151 h151 g151 => ?_))
    refine wq_ri d180_154 (rfl) ?_
    exact hQ _ _ h151 g151
  · -- case 20
    have e8 : rl_k l i = 20 := hp_inj (by omega) (by decide) e8
    rw [rl_o20 e8] at hQ
    rw [e8] at hS
    have hs := x1 (by omega)
    obtain ⟨p1, p2, p3⟩ := hP (by omega)
    have hR := hR (by omega)
    have kp := (lg_V hG (show rl_par l i < l.length by omega)).1
    rw [e8] at hR
    refine wq_l 156 d180_155 rfl rfl rfl rfl ?_
    refine wq_gr (ci := 9) (j := 0) (q := 3) 159 d180_156 rfl rfl rfl rfl ?_
    refine wq_l 160 d180_159 rfl rfl rfl rfl ?_
    refine wq_k 161 (-1) d180_160 (by decide) rfl ?_
    refine wq_v 164 [_, _] d180_161 rfl rfl m73 rfl rfl (Nat.le_of_ble_eq_true rfl) rfl (ck73 hG h hi hn ?_)
    rw [show (rl_up l i).any (rl_lp l (-1)) = (rl_up l i).any (fun j => rl_k l j == 19) from by congr 1; funext j; unfold rl_lp; rw [decide_eq_true rfl, Bool.true_or, Bool.and_true]]
    refine wq_b 171 167 d180_164 rfl (by decide) rfl (fun c164 => ?_) (fun c164 => ?_)
    · -- pc 171
      have f164 := b2z c164
      refine wq_k 173 37 d180_171 (by decide) rfl ?_
      refine wq_ri d180_173 (rfl) ?_
      rw [if_neg (fun z => absurd (f164.symm.trans z) (by decide))] at hQ
      exact hQ _ _ h (fun _ => rfl)
    · -- pc 167
      have f164 := b2n c164
      refine wq_k 168 0 d180_167 (by decide) rfl ?_
      refine wq_g 173 d180_168 (by decide) ?_
      refine wq_ri d180_173 (rfl) ?_
      rw [if_pos f164] at hQ
      exact hQ _ _ h (fun _ => rfl)
  · -- case 21
    have e8 : rl_k l i = 21 := hp_inj (by omega) (by decide) e8
    rw [rl_on (by omega)] at hQ
    refine wq_k 226 0 d180_225 (by decide) rfl ?_
    refine wq_ri d180_226 rfl ?_
    exact hQ _ _ h (fun _ => rfl)
  · -- case 22
    have e8 : rl_k l i = 22 := hp_inj (by omega) (by decide) e8
    rw [rl_o22 e8] at hQ
    rw [e8] at hS
    have hs := x1 (by omega)
    obtain ⟨p1, p2, p3⟩ := hP (by omega)
    have hR := hR (by omega)
    have kp := (lg_V hG (show rl_par l i < l.length by omega)).1
    rw [e8] at hR
    refine wq_l 175 d180_174 rfl rfl rfl rfl ?_
    refine wq_gr (ci := 9) (j := 1) (q := 5) 178 d180_175 rfl rfl rfl rfl ?_
    refine wq_k 181 156 d180_178 (by decide) rfl ?_
    refine wq_v 184 [_] d180_181 rfl rfl m113 rfl rfl (Nat.le_of_ble_eq_true rfl) rfl (cr113 (n := 156) h hB (fun σ181 h181 => ?_))
    refine wq_a 185 d180_184 rfl rfl ?_
    refine wq_k 186 0 d180_185 (by decide) rfl ?_
    refine wq_ri d180_186 (rfl) ?_
    exact hQ _ _ h181 (fun _ => rfl)
  · -- case 23
    have e8 : rl_k l i = 23 := hp_inj (by omega) (by decide) e8
    rw [rl_o23 e8] at hQ
    rw [e8] at hS
    have hs := x1 (by omega)
    obtain ⟨p1, p2, p3⟩ := hP (by omega)
    have hR := hR (by omega)
    have kp := (lg_V hG (show rl_par l i < l.length by omega)).1
    rw [e8] at hR
    refine wq_l 188 d180_187 rfl rfl rfl rfl ?_
    refine wq_l 189 d180_188 rfl rfl rfl rfl ?_
    refine wq_v 192 [_] d180_189 rfl rfl m191 rfl rfl (Nat.le_of_ble_eq_true rfl) rfl (cr191 hG h hi (fun σ189 A189 h189 g189 => ?_))
    refine wq_ri d180_192 (rfl) ?_
    exact hQ _ _ h189 g189
  · -- case 24
    have e8 : rl_k l i = 24 := hp_inj (by omega) (by decide) e8
    rw [rl_on (by omega)] at hQ
    refine wq_k 226 0 d180_225 (by decide) rfl ?_
    refine wq_ri d180_226 rfl ?_
    exact hQ _ _ h (fun _ => rfl)
  · -- case 25
    have e8 : rl_k l i = 25 := hp_inj (by omega) (by decide) e8
    rw [rl_o25 e8] at hQ
    rw [e8] at hS
    have hs := x1 (by omega)
    obtain ⟨p1, p2, p3⟩ := hP (by omega)
    have hR := hR (by omega)
    have kp := (lg_V hG (show rl_par l i < l.length by omega)).1
    rw [e8] at hR
    obtain ⟨ka, eE⟩ : ∃ a, (rl_c l i).map (rl_k l) = [a] := by
      have hS := hS
      rcases (show (rl_c l i).map (rl_k l) = [6] ∨ (rl_c l i).map (rl_k l) = [33] from hS) with w | w
      · exact ⟨6, w⟩
      · exact ⟨33, w⟩
    obtain ⟨hi2, _, k6, _⟩ := lg_1 hG hi eE
    refine wq_l 194 d180_193 rfl rfl rfl rfl ?_
    refine wq_gr (ci := 9) (j := 0) (q := 3) 197 d180_194 rfl rfl rfl rfl ?_
    refine wq_l 198 d180_197 rfl rfl rfl rfl ?_
    refine wq_k 199 1 d180_198 (by decide) rfl ?_
    refine wq_a 200 d180_199 rfl rfl ?_
    rw [nI_1]
    refine wq_v 203 [_] d180_200 rfl rfl m71 rfl rfl (Nat.le_of_ble_eq_true rfl) rfl (ck71 h (by omega) ?_)
    refine wq_b 210 206 d180_203 rfl (by decide) rfl (fun c203 => ?_) (fun c203 => ?_)
    · -- pc 210
      refine wq_k 212 41 d180_210 (by decide) rfl ?_
      refine wq_ri d180_212 (rfl) ?_
      rw [if_neg c203] at hQ
      exact hQ _ _ h (fun _ => rfl)
    · -- pc 206
      refine wq_k 207 0 d180_206 (by decide) rfl ?_
      refine wq_g 212 d180_207 (by decide) ?_
      refine wq_ri d180_212 (rfl) ?_
      rw [if_pos (Classical.not_not.mp c203)] at hQ
      exact hQ _ _ h (fun _ => rfl)
  · -- case 26
    have e8 : rl_k l i = 26 := hp_inj (by omega) (by decide) e8
    rw [rl_on (by omega)] at hQ
    refine wq_k 226 0 d180_225 (by decide) rfl ?_
    refine wq_ri d180_226 rfl ?_
    exact hQ _ _ h (fun _ => rfl)
  · -- case 27
    have e8 : rl_k l i = 27 := hp_inj (by omega) (by decide) e8
    rw [rl_on (by omega)] at hQ
    refine wq_k 226 0 d180_225 (by decide) rfl ?_
    refine wq_ri d180_226 rfl ?_
    exact hQ _ _ h (fun _ => rfl)
  · -- case 28
    have e8 : rl_k l i = 28 := hp_inj (by omega) (by decide) e8
    rw [rl_o28 e8] at hQ
    rw [e8] at hS
    have hs := x1 (by omega)
    obtain ⟨p1, p2, p3⟩ := hP (by omega)
    have hR := hR (by omega)
    have kp := (lg_V hG (show rl_par l i < l.length by omega)).1
    rw [e8] at hR
    obtain ⟨ka, eE⟩ : ∃ a, (rl_c l i).map (rl_k l) = [a] := by
      have hS := hS
      exact ⟨6, hS⟩
    obtain ⟨hi2, _, k6, _⟩ := lg_1 hG hi eE
    have eE2 : (rl_c l i).map (rl_k l) = [6] := hS
    have hx := lg_nm hG hi2 (by rw [(lg_1 hG hi eE2).2.2.1]; rfl)
    refine wq_l 214 d180_213 rfl rfl rfl rfl ?_
    refine wq_l 215 d180_214 rfl rfl rfl rfl ?_
    refine wq_v 218 [_] d180_215 rfl rfl m193 rfl rfl (Nat.le_of_ble_eq_true rfl) rfl (cr193 hG h hB hs hi2 hn p3 (by omega) hx (fun σ215 A215 h215 g215 => ?_))
    refine wq_ri d180_218 (rfl) ?_
    exact hQ _ _ h215 g215
  · -- case 29
    have e8 : rl_k l i = 29 := hp_inj (by omega) (by decide) e8
    rw [rl_o29 e8] at hQ
    rw [e8] at hS
    have hs := x1 (by omega)
    obtain ⟨p1, p2, p3⟩ := hP (by omega)
    have hR := hR (by omega)
    have kp := (lg_V hG (show rl_par l i < l.length by omega)).1
    rw [e8] at hR
    have k24 : rl_k l (rl_par l i) = 24 := sh_kc _ (by omega) 29 (by decide) hR (by decide) (by decide)
    have p0 : 0 < rl_par l i := by
      rcases Nat.eq_zero_or_pos (rl_par l i) with w | w
      · rw [w] at k24; omega
      · exact w
    obtain ⟨pp1, pp2, pp3⟩ := lg_par hG (show rl_par l i < l.length by omega) p0
    refine wq_l 220 d180_219 rfl rfl rfl rfl ?_
    refine wq_l 221 d180_220 rfl rfl rfl rfl ?_
    refine wq_v 224 [_] d180_221 rfl rfl m194 rfl rfl (Nat.le_of_ble_eq_true rfl) rfl (cr194 hG h hi hn p3 p1 pp3 pp1 (fun σ221 A221 h221 g221 => ?_))
    refine wq_ri d180_224 (rfl) ?_
    exact hQ _ _ h221 g221
  · -- default
    have w8_12 := e8 (12, 96) (by decide)
    have w8_13 := e8 (13, 102) (by decide)
    have w8_14 := e8 (14, 108) (by decide)
    have w8_15 := e8 (15, 114) (by decide)
    have w8_16 := e8 (16, 120) (by decide)
    have w8_17 := e8 (17, 225) (by decide)
    have w8_18 := e8 (18, 143) (by decide)
    have w8_19 := e8 (19, 149) (by decide)
    have w8_20 := e8 (20, 155) (by decide)
    have w8_21 := e8 (21, 225) (by decide)
    have w8_22 := e8 (22, 174) (by decide)
    have w8_23 := e8 (23, 187) (by decide)
    have w8_24 := e8 (24, 225) (by decide)
    have w8_25 := e8 (25, 193) (by decide)
    have w8_26 := e8 (26, 225) (by decide)
    have w8_27 := e8 (27, 225) (by decide)
    have w8_28 := e8 (28, 213) (by decide)
    have w8_29 := e8 (29, 219) (by decide)
    refine wq_k 226 0 d180_225 (by decide) rfl ?_
    refine wq_ri d180_226 rfl ?_
    rw [rl_on (by
      clear hQ x1 x2 x3 x4 x5 x6 hP hR hi0 hS
      have nk : ∀ k : Nat, (rl_k l i = k → nI (rl_k l i) = nI k) := fun k z => by rw [z]
      have v12 : ¬ rl_k l i = 12 := fun z => w8_12 (nk 12 z)
      have v13 : ¬ rl_k l i = 13 := fun z => w8_13 (nk 13 z)
      have v14 : ¬ rl_k l i = 14 := fun z => w8_14 (nk 14 z)
      have v15 : ¬ rl_k l i = 15 := fun z => w8_15 (nk 15 z)
      have v16 : ¬ rl_k l i = 16 := fun z => w8_16 (nk 16 z)
      have v17 : ¬ rl_k l i = 17 := fun z => w8_17 (nk 17 z)
      have v18 : ¬ rl_k l i = 18 := fun z => w8_18 (nk 18 z)
      have v19 : ¬ rl_k l i = 19 := fun z => w8_19 (nk 19 z)
      have v20 : ¬ rl_k l i = 20 := fun z => w8_20 (nk 20 z)
      have v21 : ¬ rl_k l i = 21 := fun z => w8_21 (nk 21 z)
      have v22 : ¬ rl_k l i = 22 := fun z => w8_22 (nk 22 z)
      have v23 : ¬ rl_k l i = 23 := fun z => w8_23 (nk 23 z)
      have v24 : ¬ rl_k l i = 24 := fun z => w8_24 (nk 24 z)
      have v25 : ¬ rl_k l i = 25 := fun z => w8_25 (nk 25 z)
      have v26 : ¬ rl_k l i = 26 := fun z => w8_26 (nk 26 z)
      have v27 : ¬ rl_k l i = 27 := fun z => w8_27 (nk 27 z)
      have v28 : ¬ rl_k l i = 28 := fun z => w8_28 (nk 28 z)
      have v29 : ¬ rl_k l i = 29 := fun z => w8_29 (nk 29 z)
      omega)] at hQ
    exact hQ _ _ h (fun _ => rfl)
