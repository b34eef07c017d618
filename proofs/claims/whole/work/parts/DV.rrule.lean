theorem d272_0 : decode prog_14_method_117_code 0 = .ok (.aload_n 0, 1) := by decide +kernel
theorem d272_1 : decode prog_14_method_117_code 1 = .ok (.getfield 29, 3) := by decide +kernel
theorem d272_4 : decode prog_14_method_117_code 4 = .ok (.iload_n 1, 1) := by decide +kernel
theorem d272_5 : decode prog_14_method_117_code 5 = .ok (.iaload, 1) := by decide +kernel
theorem d272_6 : decode prog_14_method_117_code 6 = .ok (.tableswitch 246 0 16 #[82, 87, 87, 87, 93, 135, 141, 147, 153, 167, 173, 246, 201, 207, 213, 219, 225], 82) := by decide +kernel
theorem d272_88 : decode prog_14_method_117_code 88 = .ok (.aload_n 0, 1) := by decide +kernel
theorem d272_89 : decode prog_14_method_117_code 89 = .ok (.invokevirtual 638, 3) := by decide +kernel
theorem d272_92 : decode prog_14_method_117_code 92 = .ok (.ireturn, 1) := by decide +kernel
theorem d272_93 : decode prog_14_method_117_code 93 = .ok (.aload_n 0, 1) := by decide +kernel
theorem d272_94 : decode prog_14_method_117_code 94 = .ok (.iload_n 1, 1) := by decide +kernel
theorem d272_95 : decode prog_14_method_117_code 95 = .ok (.invokevirtual 641, 3) := by decide +kernel
theorem d272_98 : decode prog_14_method_117_code 98 = .ok (.ireturn, 1) := by decide +kernel
theorem d272_99 : decode prog_14_method_117_code 99 = .ok (.aload_n 0, 1) := by decide +kernel
theorem d272_100 : decode prog_14_method_117_code 100 = .ok (.invokevirtual 555, 3) := by decide +kernel
theorem d272_103 : decode prog_14_method_117_code 103 = .ok (.iconst 3, 1) := by decide +kernel
theorem d272_104 : decode prog_14_method_117_code 104 = .ok (.if_icmp .ne 12, 3) := by decide +kernel
theorem d272_107 : decode prog_14_method_117_code 107 = .ok (.aload_n 0, 1) := by decide +kernel
theorem d272_108 : decode prog_14_method_117_code 108 = .ok (.getfield 35, 3) := by decide +kernel
theorem d272_111 : decode prog_14_method_117_code 111 = .ok (.iload_n 1, 1) := by decide +kernel
theorem d272_112 : decode prog_14_method_117_code 112 = .ok (.iaload, 1) := by decide +kernel
theorem d272_113 : decode prog_14_method_117_code 113 = .ok (.ifCond .gt 21, 3) := by decide +kernel
theorem d272_116 : decode prog_14_method_117_code 116 = .ok (.aload_n 0, 1) := by decide +kernel
theorem d272_117 : decode prog_14_method_117_code 117 = .ok (.invokevirtual 555, 3) := by decide +kernel
theorem d272_120 : decode prog_14_method_117_code 120 = .ok (.iconst 1, 1) := by decide +kernel
theorem d272_121 : decode prog_14_method_117_code 121 = .ok (.if_icmp .ne 18, 3) := by decide +kernel
theorem d272_124 : decode prog_14_method_117_code 124 = .ok (.aload_n 0, 1) := by decide +kernel
theorem d272_125 : decode prog_14_method_117_code 125 = .ok (.getfield 35, 3) := by decide +kernel
theorem d272_128 : decode prog_14_method_117_code 128 = .ok (.iload_n 1, 1) := by decide +kernel
theorem d272_129 : decode prog_14_method_117_code 129 = .ok (.iaload, 1) := by decide +kernel
theorem d272_130 : decode prog_14_method_117_code 130 = .ok (.iconst 2, 1) := by decide +kernel
theorem d272_131 : decode prog_14_method_117_code 131 = .ok (.if_icmp .ne 8, 3) := by decide +kernel
theorem d272_134 : decode prog_14_method_117_code 134 = .ok (.bipush 13, 2) := by decide +kernel
theorem d272_136 : decode prog_14_method_117_code 136 = .ok (.goto 4, 3) := by decide +kernel
theorem d272_139 : decode prog_14_method_117_code 139 = .ok (.iconst 0, 1) := by decide +kernel
theorem d272_140 : decode prog_14_method_117_code 140 = .ok (.ireturn, 1) := by decide +kernel
theorem d272_141 : decode prog_14_method_117_code 141 = .ok (.aload_n 0, 1) := by decide +kernel
theorem d272_142 : decode prog_14_method_117_code 142 = .ok (.iload_n 1, 1) := by decide +kernel
theorem d272_143 : decode prog_14_method_117_code 143 = .ok (.invokevirtual 644, 3) := by decide +kernel
theorem d272_146 : decode prog_14_method_117_code 146 = .ok (.ireturn, 1) := by decide +kernel
theorem d272_147 : decode prog_14_method_117_code 147 = .ok (.aload_n 0, 1) := by decide +kernel
theorem d272_148 : decode prog_14_method_117_code 148 = .ok (.iload_n 1, 1) := by decide +kernel
theorem d272_149 : decode prog_14_method_117_code 149 = .ok (.invokevirtual 647, 3) := by decide +kernel
theorem d272_152 : decode prog_14_method_117_code 152 = .ok (.ireturn, 1) := by decide +kernel
theorem d272_153 : decode prog_14_method_117_code 153 = .ok (.aload_n 0, 1) := by decide +kernel
theorem d272_154 : decode prog_14_method_117_code 154 = .ok (.iload_n 1, 1) := by decide +kernel
theorem d272_155 : decode prog_14_method_117_code 155 = .ok (.invokevirtual 650, 3) := by decide +kernel
theorem d272_158 : decode prog_14_method_117_code 158 = .ok (.ireturn, 1) := by decide +kernel
theorem d272_159 : decode prog_14_method_117_code 159 = .ok (.aload_n 0, 1) := by decide +kernel
theorem d272_160 : decode prog_14_method_117_code 160 = .ok (.getfield 50, 3) := by decide +kernel
theorem d272_163 : decode prog_14_method_117_code 163 = .ok (.iload_n 1, 1) := by decide +kernel
theorem d272_164 : decode prog_14_method_117_code 164 = .ok (.aload_n 0, 1) := by decide +kernel
theorem d272_165 : decode prog_14_method_117_code 165 = .ok (.getfield 35, 3) := by decide +kernel
theorem d272_168 : decode prog_14_method_117_code 168 = .ok (.iload_n 1, 1) := by decide +kernel
theorem d272_169 : decode prog_14_method_117_code 169 = .ok (.iaload, 1) := by decide +kernel
theorem d272_170 : decode prog_14_method_117_code 170 = .ok (.iastore, 1) := by decide +kernel
theorem d272_171 : decode prog_14_method_117_code 171 = .ok (.iconst 0, 1) := by decide +kernel
theorem d272_172 : decode prog_14_method_117_code 172 = .ok (.ireturn, 1) := by decide +kernel
theorem d272_173 : decode prog_14_method_117_code 173 = .ok (.aload_n 0, 1) := by decide +kernel
theorem d272_174 : decode prog_14_method_117_code 174 = .ok (.iload_n 1, 1) := by decide +kernel
theorem d272_175 : decode prog_14_method_117_code 175 = .ok (.invokevirtual 653, 3) := by decide +kernel
theorem d272_178 : decode prog_14_method_117_code 178 = .ok (.ireturn, 1) := by decide +kernel
theorem d272_179 : decode prog_14_method_117_code 179 = .ok (.aload_n 0, 1) := by decide +kernel
theorem d272_180 : decode prog_14_method_117_code 180 = .ok (.invokevirtual 555, 3) := by decide +kernel
theorem d272_183 : decode prog_14_method_117_code 183 = .ok (.iconst 1, 1) := by decide +kernel
theorem d272_184 : decode prog_14_method_117_code 184 = .ok (.if_icmp .eq 16, 3) := by decide +kernel
theorem d272_187 : decode prog_14_method_117_code 187 = .ok (.aload_n 0, 1) := by decide +kernel
theorem d272_188 : decode prog_14_method_117_code 188 = .ok (.aload_n 0, 1) := by decide +kernel
theorem d272_189 : decode prog_14_method_117_code 189 = .ok (.getfield 35, 3) := by decide +kernel
theorem d272_192 : decode prog_14_method_117_code 192 = .ok (.iload_n 1, 1) := by decide +kernel
theorem d272_193 : decode prog_14_method_117_code 193 = .ok (.iaload, 1) := by decide +kernel
theorem d272_194 : decode prog_14_method_117_code 194 = .ok (.invokevirtual 580, 3) := by decide +kernel
theorem d272_197 : decode prog_14_method_117_code 197 = .ok (.ifCond .ge 8, 3) := by decide +kernel
theorem d272_200 : decode prog_14_method_117_code 200 = .ok (.bipush 17, 2) := by decide +kernel
theorem d272_202 : decode prog_14_method_117_code 202 = .ok (.goto 4, 3) := by decide +kernel
theorem d272_205 : decode prog_14_method_117_code 205 = .ok (.iconst 0, 1) := by decide +kernel
theorem d272_206 : decode prog_14_method_117_code 206 = .ok (.ireturn, 1) := by decide +kernel
theorem d272_207 : decode prog_14_method_117_code 207 = .ok (.aload_n 0, 1) := by decide +kernel
theorem d272_208 : decode prog_14_method_117_code 208 = .ok (.iload_n 1, 1) := by decide +kernel
theorem d272_209 : decode prog_14_method_117_code 209 = .ok (.invokevirtual 656, 3) := by decide +kernel
theorem d272_212 : decode prog_14_method_117_code 212 = .ok (.ireturn, 1) := by decide +kernel
theorem d272_213 : decode prog_14_method_117_code 213 = .ok (.aload_n 0, 1) := by decide +kernel
theorem d272_214 : decode prog_14_method_117_code 214 = .ok (.iload_n 1, 1) := by decide +kernel
theorem d272_215 : decode prog_14_method_117_code 215 = .ok (.invokevirtual 659, 3) := by decide +kernel
theorem d272_218 : decode prog_14_method_117_code 218 = .ok (.ireturn, 1) := by decide +kernel
theorem d272_219 : decode prog_14_method_117_code 219 = .ok (.aload_n 0, 1) := by decide +kernel
theorem d272_220 : decode prog_14_method_117_code 220 = .ok (.iload_n 1, 1) := by decide +kernel
theorem d272_221 : decode prog_14_method_117_code 221 = .ok (.invokevirtual 662, 3) := by decide +kernel
theorem d272_224 : decode prog_14_method_117_code 224 = .ok (.ireturn, 1) := by decide +kernel
theorem d272_225 : decode prog_14_method_117_code 225 = .ok (.aload_n 0, 1) := by decide +kernel
theorem d272_226 : decode prog_14_method_117_code 226 = .ok (.iload_n 1, 1) := by decide +kernel
theorem d272_227 : decode prog_14_method_117_code 227 = .ok (.invokevirtual 665, 3) := by decide +kernel
theorem d272_230 : decode prog_14_method_117_code 230 = .ok (.ireturn, 1) := by decide +kernel
theorem d272_231 : decode prog_14_method_117_code 231 = .ok (.aload_n 0, 1) := by decide +kernel
theorem d272_232 : decode prog_14_method_117_code 232 = .ok (.getfield 50, 3) := by decide +kernel
theorem d272_235 : decode prog_14_method_117_code 235 = .ok (.aload_n 0, 1) := by decide +kernel
theorem d272_236 : decode prog_14_method_117_code 236 = .ok (.getfield 38, 3) := by decide +kernel
theorem d272_239 : decode prog_14_method_117_code 239 = .ok (.iload_n 1, 1) := by decide +kernel
theorem d272_240 : decode prog_14_method_117_code 240 = .ok (.iaload, 1) := by decide +kernel
theorem d272_241 : decode prog_14_method_117_code 241 = .ok (.iaload, 1) := by decide +kernel
theorem d272_242 : decode prog_14_method_117_code 242 = .ok (.ifCond .le 7, 3) := by decide +kernel
theorem d272_245 : decode prog_14_method_117_code 245 = .ok (.iconst 0, 1) := by decide +kernel
theorem d272_246 : decode prog_14_method_117_code 246 = .ok (.goto 5, 3) := by decide +kernel
theorem d272_249 : decode prog_14_method_117_code 249 = .ok (.bipush 34, 2) := by decide +kernel
theorem d272_251 : decode prog_14_method_117_code 251 = .ok (.ireturn, 1) := by decide +kernel
theorem d272_252 : decode prog_14_method_117_code 252 = .ok (.aload_n 0, 1) := by decide +kernel
theorem d272_253 : decode prog_14_method_117_code 253 = .ok (.iload_n 1, 1) := by decide +kernel
theorem d272_254 : decode prog_14_method_117_code 254 = .ok (.invokevirtual 668, 3) := by decide +kernel
theorem d272_257 : decode prog_14_method_117_code 257 = .ok (.ireturn, 1) := by decide +kernel
theorem m272 : pm_m 272 = some (⟨"TypeRulesModel", "ruleOf", "(I)I"⟩, prog_14_method_117_code, 2, (some FieldType.int), 10, 1, 11) := rfl
/-! THE RULES of the reference, one by one: ruleOf -/
theorem rv_cv : ∀ B : List rl_B, (cv_L B).length = 32 + (rv_L B).length
  | [] => rfl
  | b :: r => by
    show (cv_L r ++ b.2.2.2.2.reverse.map _).length = 32 + (rv_L r ++ b.2.2.2.2.reverse).length
    rw [List.length_append, List.length_append, List.length_map, rv_cv r, Nat.add_assoc]
/-- the root -/
theorem re272r {d : Nat} {l : List pg_N} {a : Nat → Nat} {R : Int32 → Int32 → Prop} {σ0 σ : pm_S} {u : Nat} {A : rl_A} {Q : Option Value → pm_S → Prop} {NN : Nat} (hG : lg_G l NN) (h0r : rl_k l 0 = 0) (h : rr_I l a R σ0 σ false u A) (hp : pv_B A.1) (hall : rl_all A.1 < 2 ^ 30) (hQ : ∀ σ', rr_F σ0 σ' → ((rl_out l A 0).1 = 0 → rr_I l a R σ0 σ' false u A ∧ rp_R A σ') → Q (some (.int (nI (rl_out l A 0).1))) σ') : pm_call pm_Y0 (d + 6) 272 [.ref 10, .int (nI (a 0))] σ Q := by
  have i0 := hG.2.2.1
  have bi := rt_b (rr_T h) i0
  have kk := rt_k (rr_T h) i0
  rw [h0r] at kk
  rw [rl_o0 h0r] at hQ
  refine wq_m m272 (Nat.le_of_ble_eq_true rfl) (by decide) rfl ?_
  refine wq_l 1 d272_0 rfl rfl rfl rfl ?_
  refine wq_gr (ci := 10) (j := 16) (q := 49) 4 d272_1 rfl rfl rfl rfl ?_
  refine wq_l 5 d272_4 rfl rfl rfl rfl ?_
  refine wq_al 6 d272_5 rfl rfl rfl (bi) ?_
  rw [kk]
  refine wq_tw [(0, 88), (1, 93), (2, 93), (3, 93), (4, 99), (5, 141), (6, 147), (7, 153), (8, 159), (9, 173), (10, 179), (11, 252), (12, 207), (13, 213), (14, 219), (15, 225), (16, 231)] 252 d272_6 (by decide) (List.forall_mem_cons.mpr ⟨fun e6 => ?_, List.forall_mem_cons.mpr ⟨fun e6 => ?_, List.forall_mem_cons.mpr ⟨fun e6 => ?_, List.forall_mem_cons.mpr ⟨fun e6 => ?_, List.forall_mem_cons.mpr ⟨fun e6 => ?_, List.forall_mem_cons.mpr ⟨fun e6 => ?_, List.forall_mem_cons.mpr ⟨fun e6 => ?_, List.forall_mem_cons.mpr ⟨fun e6 => ?_, List.forall_mem_cons.mpr ⟨fun e6 => ?_, List.forall_mem_cons.mpr ⟨fun e6 => ?_, List.forall_mem_cons.mpr ⟨fun e6 => ?_, List.forall_mem_cons.mpr ⟨fun e6 => ?_, List.forall_mem_cons.mpr ⟨fun e6 => ?_, List.forall_mem_cons.mpr ⟨fun e6 => ?_, List.forall_mem_cons.mpr ⟨fun e6 => ?_, List.forall_mem_cons.mpr ⟨fun e6 => ?_, List.forall_mem_cons.mpr ⟨fun e6 => ?_, fun _ h => absurd h List.not_mem_nil⟩⟩⟩⟩⟩⟩⟩⟩⟩⟩⟩⟩⟩⟩⟩⟩⟩) (fun e6 => ?_)
  · -- case 0
    refine wq_l 89 d272_88 rfl rfl rfl rfl ?_
    refine wq_v 92 [] d272_89 rfl rfl m273 rfl rfl (Nat.le_of_ble_eq_true rfl) rfl (re273 h hp hall (fun σ1 hF hI => ?_))
    refine wq_ri d272_92 (rfl) ?_
    exact hQ σ1 hF hI
  · -- case 1
    exact absurd e6 (by decide)
  · -- case 2
    exact absurd e6 (by decide)
  · -- case 3
    exact absurd e6 (by decide)
  · -- case 4
    exact absurd e6 (by decide)
  · -- case 5
    exact absurd e6 (by decide)
  · -- case 6
    exact absurd e6 (by decide)
  · -- case 7
    exact absurd e6 (by decide)
  · -- case 8
    exact absurd e6 (by decide)
  · -- case 9
    exact absurd e6 (by decide)
  · -- case 10
    exact absurd e6 (by decide)
  · -- case 11
    exact absurd e6 (by decide)
  · -- case 12
    exact absurd e6 (by decide)
  · -- case 13
    exact absurd e6 (by decide)
  · -- case 14
    exact absurd e6 (by decide)
  · -- case 15
    exact absurd e6 (by decide)
  · -- case 16
    exact absurd e6 (by decide)
  · -- default
    have w6_0 := e6 (0, 88) (by decide)
    have w6_1 := e6 (1, 93) (by decide)
    have w6_2 := e6 (2, 93) (by decide)
    have w6_3 := e6 (3, 93) (by decide)
    have w6_4 := e6 (4, 99) (by decide)
    have w6_5 := e6 (5, 141) (by decide)
    have w6_6 := e6 (6, 147) (by decide)
    have w6_7 := e6 (7, 153) (by decide)
    have w6_8 := e6 (8, 159) (by decide)
    have w6_9 := e6 (9, 173) (by decide)
    have w6_10 := e6 (10, 179) (by decide)
    have w6_11 := e6 (11, 252) (by decide)
    have w6_12 := e6 (12, 207) (by decide)
    have w6_13 := e6 (13, 213) (by decide)
    have w6_14 := e6 (14, 219) (by decide)
    have w6_15 := e6 (15, 225) (by decide)
    have w6_16 := e6 (16, 231) (by decide)
    exact absurd rfl w6_0
/-- a block -/
theorem re272b {d : Nat} {l : List pg_N} {a : Nat → Nat} {R : Int32 → Int32 → Prop} {σ0 σ : pm_S} {Q : Option Value → pm_S → Prop} {NN u u' i : Nat} {y : rl_B} {r : List rl_B} {T : (Nat → Int32) × (Nat → Int32) × (Nat → Int32)} (hG : lg_G l NN) (h0r : rl_k l 0 = 0) (h : rr_I l a R σ0 σ true u (y :: r, T)) (hy : y.2.2.1 = i) (i0 : i < l.length) (hk : 1 ≤ rl_k l i ∧ rl_k l i ≤ 3) (hp : pv_B (y :: r)) (hI : pe_I l u i (i + rl_z l i) (y :: r, T)) (hQ : ∀ σ', rr_F σ0 σ' → ((rl_out l (y :: r, T) i).1 = 0 → rr_I l a R σ0 σ' false u' (rl_out l (y :: r, T) i).2) → Q (some (.int (nI (rl_out l (y :: r, T) i).1))) σ') : pm_call pm_Y0 (d + 6) 272 [.ref 10, .int (nI (a i))] σ Q := by
  have bi := rt_b (rr_T h) i0
  have kk := rt_k (rr_T h) i0
  refine wq_m m272 (Nat.le_of_ble_eq_true rfl) (by decide) rfl ?_
  refine wq_l 1 d272_0 rfl rfl rfl rfl ?_
  refine wq_gr (ci := 10) (j := 16) (q := 49) 4 d272_1 rfl rfl rfl rfl ?_
  refine wq_l 5 d272_4 rfl rfl rfl rfl ?_
  refine wq_al 6 d272_5 rfl rfl rfl (bi) ?_
  rw [kk]
  refine wq_tw [(0, 88), (1, 93), (2, 93), (3, 93), (4, 99), (5, 141), (6, 147), (7, 153), (8, 159), (9, 173), (10, 179), (11, 252), (12, 207), (13, 213), (14, 219), (15, 225), (16, 231)] 252 d272_6 (by decide) (List.forall_mem_cons.mpr ⟨fun e6 => ?_, List.forall_mem_cons.mpr ⟨fun e6 => ?_, List.forall_mem_cons.mpr ⟨fun e6 => ?_, List.forall_mem_cons.mpr ⟨fun e6 => ?_, List.forall_mem_cons.mpr ⟨fun e6 => ?_, List.forall_mem_cons.mpr ⟨fun e6 => ?_, List.forall_mem_cons.mpr ⟨fun e6 => ?_, List.forall_mem_cons.mpr ⟨fun e6 => ?_, List.forall_mem_cons.mpr ⟨fun e6 => ?_, List.forall_mem_cons.mpr ⟨fun e6 => ?_, List.forall_mem_cons.mpr ⟨fun e6 => ?_, List.forall_mem_cons.mpr ⟨fun e6 => ?_, List.forall_mem_cons.mpr ⟨fun e6 => ?_, List.forall_mem_cons.mpr ⟨fun e6 => ?_, List.forall_mem_cons.mpr ⟨fun e6 => ?_, List.forall_mem_cons.mpr ⟨fun e6 => ?_, List.forall_mem_cons.mpr ⟨fun e6 => ?_, fun _ h => absurd h List.not_mem_nil⟩⟩⟩⟩⟩⟩⟩⟩⟩⟩⟩⟩⟩⟩⟩⟩⟩) (fun e6 => ?_)
  · -- case 0
    have e6 : rl_k l i = 0 := hp_inj (by omega) (by decide) e6
    omega
  · -- case 1
    refine wq_l 94 d272_93 rfl rfl rfl rfl ?_
    refine wq_l 95 d272_94 rfl rfl rfl rfl ?_
    refine wq_v 98 [_] d272_95 rfl rfl m274 rfl rfl (Nat.le_of_ble_eq_true rfl) rfl (re274x (u' := u') hG h0r h hy i0 hk hp hI (fun σ1 hF hI => ?_))
    refine wq_ri d272_98 (rfl) ?_
    exact hQ σ1 hF hI
  · -- case 2
    refine wq_l 94 d272_93 rfl rfl rfl rfl ?_
    refine wq_l 95 d272_94 rfl rfl rfl rfl ?_
    refine wq_v 98 [_] d272_95 rfl rfl m274 rfl rfl (Nat.le_of_ble_eq_true rfl) rfl (re274x (u' := u') hG h0r h hy i0 hk hp hI (fun σ1 hF hI => ?_))
    refine wq_ri d272_98 (rfl) ?_
    exact hQ σ1 hF hI
  · -- case 3
    refine wq_l 94 d272_93 rfl rfl rfl rfl ?_
    refine wq_l 95 d272_94 rfl rfl rfl rfl ?_
    refine wq_v 98 [_] d272_95 rfl rfl m274 rfl rfl (Nat.le_of_ble_eq_true rfl) rfl (re274x (u' := u') hG h0r h hy i0 hk hp hI (fun σ1 hF hI => ?_))
    refine wq_ri d272_98 (rfl) ?_
    exact hQ σ1 hF hI
  · -- case 4
    have e6 : rl_k l i = 4 := hp_inj (by omega) (by decide) e6
    omega
  · -- case 5
    have e6 : rl_k l i = 5 := hp_inj (by omega) (by decide) e6
    omega
  · -- case 6
    have e6 : rl_k l i = 6 := hp_inj (by omega) (by decide) e6
    omega
  · -- case 7
    have e6 : rl_k l i = 7 := hp_inj (by omega) (by decide) e6
    omega
  · -- case 8
    have e6 : rl_k l i = 8 := hp_inj (by omega) (by decide) e6
    omega
  · -- case 9
    have e6 : rl_k l i = 9 := hp_inj (by omega) (by decide) e6
    omega
  · -- case 10
    have e6 : rl_k l i = 10 := hp_inj (by omega) (by decide) e6
    omega
  · -- case 11
    have e6 : rl_k l i = 11 := hp_inj (by omega) (by decide) e6
    omega
  · -- case 12
    have e6 : rl_k l i = 12 := hp_inj (by omega) (by decide) e6
    omega
  · -- case 13
    have e6 : rl_k l i = 13 := hp_inj (by omega) (by decide) e6
    omega
  · -- case 14
    have e6 : rl_k l i = 14 := hp_inj (by omega) (by decide) e6
    omega
  · -- case 15
    have e6 : rl_k l i = 15 := hp_inj (by omega) (by decide) e6
    omega
  · -- case 16
    have e6 : rl_k l i = 16 := hp_inj (by omega) (by decide) e6
    omega
  · -- default
    have w6_0 := e6 (0, 88) (by decide)
    have w6_1 := e6 (1, 93) (by decide)
    have w6_2 := e6 (2, 93) (by decide)
    have w6_3 := e6 (3, 93) (by decide)
    have w6_4 := e6 (4, 99) (by decide)
    have w6_5 := e6 (5, 141) (by decide)
    have w6_6 := e6 (6, 147) (by decide)
    have w6_7 := e6 (7, 153) (by decide)
    have w6_8 := e6 (8, 159) (by decide)
    have w6_9 := e6 (9, 173) (by decide)
    have w6_10 := e6 (10, 179) (by decide)
    have w6_11 := e6 (11, 252) (by decide)
    have w6_12 := e6 (12, 207) (by decide)
    have w6_13 := e6 (13, 213) (by decide)
    have w6_14 := e6 (14, 219) (by decide)
    have w6_15 := e6 (15, 225) (by decide)
    have w6_16 := e6 (16, 231) (by decide)
    have nk : ∀ k : Nat, (rl_k l i = k → nI (rl_k l i) = nI k) := fun k z => by rw [z]
    have v1 : ¬ rl_k l i = 1 := fun z => w6_1 (nk 1 z)
    have v2 : ¬ rl_k l i = 2 := fun z => w6_2 (nk 2 z)
    have v3 : ¬ rl_k l i = 3 := fun z => w6_3 (nk 3 z)
    omega
/-- any other node -/
theorem re272 {d : Nat} {l : List pg_N} {a : Nat → Nat} {R : Int32 → Int32 → Prop} {σ0 σ : pm_S} {u : Nat} {A : rl_A} {Q : Option Value → pm_S → Prop} {NN i : Nat} (hG : lg_G l NN) (h0r : rl_k l 0 = 0) (h : rr_I l a R σ0 σ true u A) (i0 : i < l.length) (hk : 3 < rl_k l i) (cx : cx_L l A i) (hch : ∀ c ∈ rl_c l i, pe_N l A c) (hfb : ∀ b y, rl_blk A.1 b = some y → y.1 = 1 → y.2.2.1 + 1 < y.2.2.1 + rl_z l y.2.2.1 ∧ rp_nk (rl_k l (y.2.2.1 + 1)) = false) (hu5 : rl_k l i = 5 → u = (rl_cur A).2.2.2.1) (hu7 : rl_k l i = 7 → ∀ v ∈ (rl_cur A).2.2.2.2, v.2.1 = 3 → v.2.2.2.2.1 = -1) (hQ : ∀ σ', rr_F σ0 σ' → ((rl_out l A i).1 = 0 → rr_I l a R σ0 σ' true (if rl_k l i = 5 then (rl_cur (rl_out l A i).2).2.2.2.1 else u) (rl_out l A i).2) → Q (some (.int (nI (rl_out l A i).1))) σ') : pm_call pm_Y0 (d + 6) 272 [.ref 10, .int (nI (a i))] σ Q := by
  have cx' := cx
  obtain ⟨hp, hB, x1, x2, x3, x4, x5, x6⟩ := cx
  have kl := (lg_V hG i0).1
  have hS := lg_S hG i0
  have bi := rt_b (rr_T h) i0
  have kk := rt_k (rr_T h) i0
  have ipos : 0 < i := by
    rcases Nat.eq_zero_or_pos i with w | w
    · rw [w, h0r] at hk; exact absurd hk (by decide)
    · exact w
  obtain ⟨p1, p2, p3⟩ := lg_par hG i0 ipos
  have hpl : rl_par l i < l.length := by omega
  have hR := lg_Rp hG i0 ipos
  have kp := (lg_V hG hpl).1
  have chp : ∀ c ∈ rl_c l i, rl_par l c = i := fun c hc => (rl_upc' hG i0 hc).2
  have chX : ∀ c ∈ rl_c l i, rl_k l i ≠ 5 → rl_k l i ≠ 33 → sh_E (rl_k l c) → pv_T (A.2.1 c) := fun c hc h1 h2 h3 => (hch c hc).1 (by
    unfold pe_X
    rw [chp c hc]
    rcases h3 with w | w
    · exact Or.inr ⟨w, h1, h2⟩
    · exact Or.inl w)
  have zi := (rl_zc hG.1 i0).2
  have kc := (pv_cur hp hB).1
  have hQ' : rl_k l i ≠ 5 → rr_Q l a R σ0 true u (rl_out l A i) Q := fun z => by rw [if_neg z] at hQ; exact hQ
  refine wq_m m272 (Nat.le_of_ble_eq_true rfl) (by decide) rfl ?_
  refine wq_l 1 d272_0 rfl rfl rfl rfl ?_
  refine wq_gr (ci := 10) (j := 16) (q := 49) 4 d272_1 rfl rfl rfl rfl ?_
  refine wq_l 5 d272_4 rfl rfl rfl rfl ?_
  refine wq_al 6 d272_5 rfl rfl rfl (bi) ?_
  rw [kk]
  refine wq_tw [(0, 88), (1, 93), (2, 93), (3, 93), (4, 99), (5, 141), (6, 147), (7, 153), (8, 159), (9, 173), (10, 179), (11, 252), (12, 207), (13, 213), (14, 219), (15, 225), (16, 231)] 252 d272_6 (by decide) (List.forall_mem_cons.mpr ⟨fun e6 => ?_, List.forall_mem_cons.mpr ⟨fun e6 => ?_, List.forall_mem_cons.mpr ⟨fun e6 => ?_, List.forall_mem_cons.mpr ⟨fun e6 => ?_, List.forall_mem_cons.mpr ⟨fun e6 => ?_, List.forall_mem_cons.mpr ⟨fun e6 => ?_, List.forall_mem_cons.mpr ⟨fun e6 => ?_, List.forall_mem_cons.mpr ⟨fun e6 => ?_, List.forall_mem_cons.mpr ⟨fun e6 => ?_, List.forall_mem_cons.mpr ⟨fun e6 => ?_, List.forall_mem_cons.mpr ⟨fun e6 => ?_, List.forall_mem_cons.mpr ⟨fun e6 => ?_, List.forall_mem_cons.mpr ⟨fun e6 => ?_, List.forall_mem_cons.mpr ⟨fun e6 => ?_, List.forall_mem_cons.mpr ⟨fun e6 => ?_, List.forall_mem_cons.mpr ⟨fun e6 => ?_, List.forall_mem_cons.mpr ⟨fun e6 => ?_, fun _ h => absurd h List.not_mem_nil⟩⟩⟩⟩⟩⟩⟩⟩⟩⟩⟩⟩⟩⟩⟩⟩⟩) (fun e6 => ?_)
  · -- case 0
    have e6 : rl_k l i = 0 := hp_inj (by omega) (by decide) e6
    omega
  · -- case 1
    have e6 : rl_k l i = 1 := hp_inj (by omega) (by decide) e6
    omega
  · -- case 2
    have e6 : rl_k l i = 2 := hp_inj (by omega) (by decide) e6
    omega
  · -- case 3
    have e6 : rl_k l i = 3 := hp_inj (by omega) (by decide) e6
    omega
  · -- case 4
    have e6 : rl_k l i = 4 := hp_inj (by omega) (by decide) e6
    have hQ := hQ' (by omega)
    clear hQ'
    rw [rl_o4 e6] at hQ
    rw [e6] at hS hR
    obtain ⟨gv, gl, ge⟩ := (lg_V hG i0).2.2.1 (Or.inl e6)
    have vv := rt_v (rr_T h) i0 (by rw [e6]; rfl)
    have egv := nI_toInt (n := gv) (by omega)
    refine wq_l 100 d272_99 rfl rfl rfl rfl ?_
    refine wq_v 103 [] d272_100 rfl rfl m267 rfl rfl (Nat.le_of_ble_eq_true rfl) rfl (re267 h hB ?_)
    refine wq_k 104 3 d272_103 (by decide) rfl ?_
    refine wq_b 116 107 d272_104 rfl (by decide) rfl (fun c104 => ?_) (fun c104 => ?_)
    · -- pc 116
      refine wq_l 117 d272_116 rfl rfl rfl rfl ?_
      refine wq_v 120 [] d272_117 rfl rfl m267 rfl rfl (Nat.le_of_ble_eq_true rfl) rfl (re267 h hB ?_)
      refine wq_k 121 1 d272_120 (by decide) rfl ?_
      refine wq_b 139 124 d272_121 rfl (by decide) rfl (fun c121 => ?_) (fun c121 => ?_)
      · -- pc 139
        refine wq_k 140 0 d272_139 (by decide) rfl ?_
        refine wq_ri d272_140 (rfl) ?_
        have n3 : ¬ (rl_cur A).1 = 3 := fun z => c104 (by rw [z]; rfl)
        exact rr_q0 hQ h (if_neg (fun z => z.elim (fun w => n3 w.1) (fun w => c121 (by rw [w.1]; rfl))))
      · -- pc 124
        refine wq_l 125 d272_124 rfl rfl rfl rfl ?_
        refine wq_gr (ci := 10) (j := 18) (q := 51) 128 d272_125 rfl rfl rfl rfl ?_
        refine wq_l 129 d272_128 rfl rfl rfl rfl ?_
        refine wq_al 130 d272_129 rfl rfl rfl (bi) ?_
        rw [vv]
        refine wq_k 131 2 d272_130 (by decide) rfl ?_
        refine wq_b 139 134 d272_131 rfl (by decide) rfl (fun c131 => ?_) (fun c131 => ?_)
        · -- pc 139
          refine wq_k 140 0 d272_139 (by decide) rfl ?_
          refine wq_ri d272_140 (rfl) ?_
          have n3 : ¬ (rl_cur A).1 = 3 := fun z => c104 (by rw [z]; rfl)
          have k1 : (rl_cur A).1 = 1 := hp_inj (b := 1) (by omega) (by decide) (Classical.not_not.mp c121)
          exact rr_q0 hQ h (if_neg (fun z => z.elim (fun w => n3 w.1) (fun w => c131 w.2)))
        · -- pc 134
          refine wq_k 136 13 d272_134 (by decide) rfl ?_
          refine wq_g 140 d272_136 (by decide) ?_
          refine wq_ri d272_140 (rfl) ?_
          have n3 : ¬ (rl_cur A).1 = 3 := fun z => c104 (by rw [z]; rfl)
          have k1 : (rl_cur A).1 = 1 := hp_inj (b := 1) (by omega) (by decide) (Classical.not_not.mp c121)
          exact rr_q1 (k := 13) hQ (rr_Fi h) (if_pos (Or.inr ⟨k1, Classical.not_not.mp c131⟩)) (by decide)
    · -- pc 107
      refine wq_l 108 d272_107 rfl rfl rfl rfl ?_
      refine wq_gr (ci := 10) (j := 18) (q := 51) 111 d272_108 rfl rfl rfl rfl ?_
      refine wq_l 112 d272_111 rfl rfl rfl rfl ?_
      refine wq_al 113 d272_112 rfl rfl rfl (bi) ?_
      rw [vv]
      refine wq_b 134 116 d272_113 rfl (by decide) rfl (fun c113 => ?_) (fun c113 => ?_)
      · -- pc 134
        refine wq_k 136 13 d272_134 (by decide) rfl ?_
        refine wq_g 140 d272_136 (by decide) ?_
        refine wq_ri d272_140 (rfl) ?_
        have k3 : (rl_cur A).1 = 3 := hp_inj (b := 3) (by omega) (by decide) (Classical.not_not.mp c104)
        rw [i_lt, ge, egv] at c113
        have c113 : (0 : Int) < _ := c113
        exact rr_q1 (k := 13) hQ (rr_Fi h) (if_pos (Or.inl ⟨k3, fun z => by rw [ge] at z; have := hp_inj (b := 0) (by omega) (by decide) z; omega⟩)) (by decide)
      · -- pc 116
        refine wq_l 117 d272_116 rfl rfl rfl rfl ?_
        refine wq_v 120 [] d272_117 rfl rfl m267 rfl rfl (Nat.le_of_ble_eq_true rfl) rfl (re267 h hB ?_)
        refine wq_k 121 1 d272_120 (by decide) rfl ?_
        refine wq_b 139 124 d272_121 rfl (by decide) rfl (fun c121 => ?_) (fun c121 => ?_)
        · -- pc 139
          refine wq_k 140 0 d272_139 (by decide) rfl ?_
          refine wq_ri d272_140 (rfl) ?_
          have k3 : (rl_cur A).1 = 3 := hp_inj (b := 3) (by omega) (by decide) (Classical.not_not.mp c104)
          rw [i_lt, ge, egv] at c113
          have c113 : ¬ (0 : Int) < _ := c113
          exact rr_q0 hQ h (if_neg (fun z => z.elim (fun w => w.2 (by rw [ge, show gv = 0 by omega]; rfl)) (fun w => by omega)))
        · -- pc 124
          refine wq_l 125 d272_124 rfl rfl rfl rfl ?_
          refine wq_gr (ci := 10) (j := 18) (q := 51) 128 d272_125 rfl rfl rfl rfl ?_
          refine wq_l 129 d272_128 rfl rfl rfl rfl ?_
          refine wq_al 130 d272_129 rfl rfl rfl (bi) ?_
          rw [vv]
          refine wq_k 131 2 d272_130 (by decide) rfl ?_
          refine wq_b 139 134 d272_131 rfl (by decide) rfl (fun c131 => ?_) (fun c131 => ?_)
          · -- pc 139
            refine wq_k 140 0 d272_139 (by decide) rfl ?_
            refine wq_ri d272_140 (rfl) ?_
            have k3 : (rl_cur A).1 = 3 := hp_inj (b := 3) (by omega) (by decide) (Classical.not_not.mp c104)
            rw [i_lt, ge, egv] at c113
            have c113 : ¬ (0 : Int) < _ := c113
            exfalso
            have := hp_inj (b := 1) (by omega) (by decide) (Classical.not_not.mp c121)
            omega
          · -- pc 134
            refine wq_k 136 13 d272_134 (by decide) rfl ?_
            refine wq_g 140 d272_136 (by decide) ?_
            refine wq_ri d272_140 (rfl) ?_
            have k3 : (rl_cur A).1 = 3 := hp_inj (b := 3) (by omega) (by decide) (Classical.not_not.mp c104)
            rw [i_lt, ge, egv] at c113
            have c113 : ¬ (0 : Int) < _ := c113
            exfalso
            have := hp_inj (b := 1) (by omega) (by decide) (Classical.not_not.mp c121)
            omega
  · -- case 5
    have e6 : rl_k l i = 5 := hp_inj (by omega) (by decide) e6
    rw [if_pos e6, rl_o5 e6] at hQ
    rw [hu5 e6] at h
    refine wq_l 142 d272_141 rfl rfl rfl rfl ?_
    refine wq_l 143 d272_142 rfl rfl rfl rfl ?_
    refine wq_v 146 [_] d272_143 rfl rfl m277 rfl rfl (Nat.le_of_ble_eq_true rfl) rfl (re277 hG h0r h i0 e6 cx' (fun σ1 hF hI => ?_))
    refine wq_ri d272_146 (rfl) ?_
    exact hQ σ1 hF hI
  · -- case 6
    have e6 : rl_k l i = 6 := hp_inj (by omega) (by decide) e6
    have hQ := hQ' (by omega)
    clear hQ'
    rw [e6] at hS hR
    refine wq_l 148 d272_147 rfl rfl rfl rfl ?_
    refine wq_l 149 d272_148 rfl rfl rfl rfl ?_
    refine wq_v 152 [_] d272_149 rfl rfl m282 rfl rfl (Nat.le_of_ble_eq_true rfl) rfl (re282 hG h hp hB i0 ipos e6 rfl hpl (x2 e6) (fun z => by have := x3 e6 z; rw [rv_cv] at this; omega) (fun σ1 hF hI => ?_))
    refine wq_ri d272_152 (rfl) ?_
    exact hQ σ1 hF hI
  · -- case 7
    have e6 : rl_k l i = 7 := hp_inj (by omega) (by decide) e6
    have hQ := hQ' (by omega)
    clear hQ'
    rw [rl_o7 e6] at hQ
    rw [e6] at hS hR
    obtain ⟨v0, vs, w1, w2, w3⟩ := x4 e6
    have k5 : rl_k l (rl_par l i) = 5 := sh_k7 _ (by omega) 7 (by decide) hR rfl
    obtain ⟨m, hp', yt, cs, D⟩ := lg_5 hG hpl k5
    have im : i = rl_par l i + m + 1 := by
      rcases lg_Dc D p2 with w | w | w | w
      · omega
      · exact w.1
      · omega
      · omega
    have hx : rl_v l i ≠ -1 := by
      obtain ⟨ar, o, o1, o2, o3, o4⟩ := lg_7 hG i0 e6
      rw [o4]
      exact hp_ne (by omega)
    refine wq_l 154 d272_153 rfl rfl rfl rfl ?_
    refine wq_l 155 d272_154 rfl rfl rfl rfl ?_
    refine wq_v 158 [_] d272_155 rfl rfl m285 rfl rfl (Nat.le_of_ble_eq_true rfl) rfl (re285 hG h hp hB i0 ipos e6 rfl hpl (by rw [lg_cnt D]; omega) hx (hu7 e6) ⟨v0, vs, w1, w2⟩ (fun σ1 hF hI => ?_))
    refine wq_ri d272_158 (rfl) ?_
    exact hQ σ1 hF hI
  · -- case 8
    have e6 : rl_k l i = 8 := hp_inj (by omega) (by decide) e6
    have hQ := hQ' (by omega)
    clear hQ'
    rw [rl_o8 e6] at hQ
    rw [e6] at hS hR
    have vv := rt_v (rr_T h) i0 (by rw [e6]; rfl)
    refine wq_l 160 d272_159 rfl rfl rfl rfl ?_
    refine wq_gr (ci := 10) (j := 23) (q := 56) 163 d272_160 rfl rfl rfl rfl ?_
    refine wq_l 164 d272_163 rfl rfl rfl rfl ?_
    refine wq_l 165 d272_164 rfl rfl rfl rfl ?_
    refine wq_gr (ci := 10) (j := 18) (q := 51) 168 d272_165 rfl rfl rfl rfl ?_
    refine wq_l 169 d272_168 rfl rfl rfl rfl ?_
    refine wq_al 170 d272_169 rfl rfl rfl (bi) ?_
    rw [vv]
    refine wq_as 171 d272_170 rfl rfl rfl (bi) ?_
    refine wq_k 172 0 d272_171 (by decide) rfl ?_
    refine wq_ri d272_172 (rfl) ?_
    exact rr_q0 hQ (rr_ty h i0 (rl_v l i)) rfl
  · -- case 9
    have e6 : rl_k l i = 9 := hp_inj (by omega) (by decide) e6
    have hQ := hQ' (by omega)
    clear hQ'
    rw [rl_o9 e6] at hQ
    rw [e6] at hS hR
    obtain ⟨q1, q2, q3, q4, q5⟩ := lg_9c hG i0 e6
    refine wq_l 174 d272_173 rfl rfl rfl rfl ?_
    refine wq_l 175 d272_174 rfl rfl rfl rfl ?_
    refine wq_v 178 [_] d272_175 rfl rfl m286 rfl rfl (Nat.le_of_ble_eq_true rfl) rfl (re286 hG h hB hp i0 q1 q2 q3 q4 (fun σ1 hF hI => ?_))
    refine wq_ri d272_178 (rfl) ?_
    exact hQ σ1 hF hI
  · -- case 10
    have e6 : rl_k l i = 10 := hp_inj (by omega) (by decide) e6
    have hQ := hQ' (by omega)
    clear hQ'
    rw [rl_o10 e6] at hQ
    rw [e6] at hS hR
    have hRn := rt_R (rr_T h) i0 (by rw [e6]; rfl)
    have em := rt_m (rr_T h) i0
    have hB9 := h.2.2.2.2.1.1
    refine wq_l 180 d272_179 rfl rfl rfl rfl ?_
    refine wq_v 183 [] d272_180 rfl rfl m267 rfl rfl (Nat.le_of_ble_eq_true rfl) rfl (re267 h hB ?_)
    refine wq_k 184 1 d272_183 (by decide) rfl ?_
    refine wq_b 200 187 d272_184 rfl (by decide) rfl (fun c184 => ?_) (fun c184 => ?_)
    · -- pc 200
      refine wq_k 202 17 d272_200 (by decide) rfl ?_
      refine wq_g 206 d272_202 (by decide) ?_
      refine wq_ri d272_206 (rfl) ?_
      exact rr_q1 (k := 17) hQ (rr_Fi h) (if_pos (Or.inl (hp_inj (b := 1) (by omega) (by decide) c184))) (by decide)
    · -- pc 187
      refine wq_l 188 d272_187 rfl rfl rfl rfl ?_
      refine wq_l 189 d272_188 rfl rfl rfl rfl ?_
      refine wq_gr (ci := 10) (j := 18) (q := 51) 192 d272_189 rfl rfl rfl rfl ?_
      refine wq_l 193 d272_192 rfl rfl rfl rfl ?_
      refine wq_al 194 d272_193 rfl rfl rfl (bi) ?_
      rw [em]
      refine wq_v 197 [_] d272_194 rfl rfl m279 rfl rfl (Nat.le_of_ble_eq_true rfl) rfl (re279 h hp hB hRn ?_)
      refine wq_b 205 200 d272_197 rfl (by decide) rfl (fun c197 => ?_) (fun c197 => ?_)
      · -- pc 205
        refine wq_k 206 0 d272_205 (by decide) rfl ?_
        refine wq_ri d272_206 (rfl) ?_
        have n1 : ¬ (rl_cur A).1 = 1 := fun z => c184 (by rw [z]; rfl)
        refine rr_q0 hQ h (if_neg (fun z => z.elim n1 (fun w => ?_)))
        rw [w] at c197
        exact absurd c197 (by decide)
      · -- pc 200
        refine wq_k 202 17 d272_200 (by decide) rfl ?_
        refine wq_g 206 d272_202 (by decide) ?_
        refine wq_ri d272_206 (rfl) ?_
        have n1 : ¬ (rl_cur A).1 = 1 := fun z => c184 (by rw [z]; rfl)
        refine rr_q1 (k := 17) hQ (rr_Fi h) (if_pos (Or.inr ?_)) (by decide)
        cases ei : rl_inst A.1 (rl_v l i) with
        | none => rfl
        | some q =>
          exfalso
          rw [ei] at c197
          have ql : q < 9 + 409 := by rcases rl_instl ei with w | ⟨_, _, _, _, _, w⟩ <;> omega
          refine c197 ?_
          show (0 : Int32) ≤ rv_q q
          unfold rv_q
          by_cases w : q < 9
          · rw [if_pos w, i_le, nI_toInt (by omega)]; show (0 : Int) ≤ _; omega
          · rw [if_neg w, i_le, nI_toInt (by omega)]; show (0 : Int) ≤ _; omega
  · -- case 11
    have e6 : rl_k l i = 11 := hp_inj (by omega) (by decide) e6
    have hQ := hQ' (by omega)
    clear hQ'
    refine wq_l 253 d272_252 rfl rfl rfl rfl ?_
    refine wq_l 254 d272_253 rfl rfl rfl rfl ?_
    refine wq_v 257 [_] d272_254 rfl rfl m298 rfl rfl (Nat.le_of_ble_eq_true rfl) rfl (re298 hG h0r h i0 cx' hch hfb (Or.inl e6) (fun σ1 hF hI => ?_))
    refine wq_ri d272_257 (rfl) ?_
    exact hQ σ1 hF hI
  · -- case 12
    have e6 : rl_k l i = 12 := hp_inj (by omega) (by decide) e6
    have hQ := hQ' (by omega)
    clear hQ'
    rw [rl_o12 e6] at hQ
    rw [e6] at hS hR
    have hs := x1 (by omega)
    obtain ⟨ka, kb, eE, kA, kB⟩ : ∃ a e, (rl_c l i).map (rl_k l) = [a, e] ∧ (a = 6 ∨ a = 32) ∧ sh_E e := hS
    obtain ⟨hi2, hi3, hc1, k6, k7, _⟩ := lg_2 hG i0 eE
    have := (rl_zc hG.1 hi2).1
    have := (rl_zc hG.1 hi3).1
    have hz2 : i + 1 < i + rl_z l i := by omega
    have gl : (rl_c l i).getLast? = some (i + 1 + rl_z l (i + 1)) := by rw [hc1]; rfl
    have gd : (rl_c l i).getD 1 0 = i + 1 + rl_z l (i + 1) := by rw [hc1]; rfl
    rw [gd] at hQ
    have m1 : i + 1 ∈ rl_c l i := by rw [hc1]; simp
    have hfd := (hch (i + 1) m1).2 (by
      rw [chp (i + 1) m1]
      rcases kA with w | w
      · exact Or.inl ⟨by omega, by omega, by omega⟩
      · exact Or.inr (by omega))
    have nk1 : rp_nk (rl_k l (i + 1)) = true := by rw [k6]; rcases kA with w | w <;> (rw [w]; rfl)
    refine wq_l 208 d272_207 rfl rfl rfl rfl ?_
    refine wq_l 209 d272_208 rfl rfl rfl rfl ?_
    refine wq_v 212 [_] d272_209 rfl rfl m287 rfl rfl (Nat.le_of_ble_eq_true rfl) rfl (re287 hG h hp hB hs hi2 hz2 hi3 gl nk1 hfd (fun σ1 hF hI => ?_))
    refine wq_ri d272_212 (rfl) ?_
    exact hQ σ1 hF hI
  · -- case 13
    have e6 : rl_k l i = 13 := hp_inj (by omega) (by decide) e6
    have hQ := hQ' (by omega)
    clear hQ'
    rw [rl_o13 e6] at hQ
    rw [e6] at hS hR
    have hs := x1 (by omega)
    refine wq_l 214 d272_213 rfl rfl rfl rfl ?_
    refine wq_l 215 d272_214 rfl rfl rfl rfl ?_
    refine wq_v 218 [_] d272_215 rfl rfl m291 rfl rfl (Nat.le_of_ble_eq_true rfl) rfl (re291 hG h hp hB hs i0 (by rw [e6]; rfl) (fun σ1 hF hI => ?_))
    refine wq_ri d272_218 (rfl) ?_
    exact hQ σ1 hF hI
  · -- case 14
    have e6 : rl_k l i = 14 := hp_inj (by omega) (by decide) e6
    have hQ := hQ' (by omega)
    clear hQ'
    rw [rl_o14 e6] at hQ
    rw [e6] at hS hR
    have hs := x1 (by omega)
    obtain ⟨ka, eE, kA⟩ : ∃ e, (rl_c l i).map (rl_k l) = [e] ∧ sh_E e := hS
    obtain ⟨hi2, hc1, k6, _⟩ := lg_1 hG i0 eE
    have := (rl_zc hG.1 hi2).1
    have hz2 : i + 1 < i + rl_z l i := by omega
    have k13 : rl_k l (rl_par l i) = 13 := sh_k14 _ (by omega) 14 (by decide) hR rfl
    have hS13 := lg_S hG hpl
    rw [k13] at hS13
    have hS13 : ∀ x ∈ (rl_c l (rl_par l i)).map (rl_k l), x = 14 := hS13
    refine wq_l 220 d272_219 rfl rfl rfl rfl ?_
    refine wq_l 221 d272_220 rfl rfl rfl rfl ?_
    refine wq_v 224 [_] d272_221 rfl rfl m293 rfl rfl (Nat.le_of_ble_eq_true rfl) rfl (re293 hG h hp hB hs hi2 hz2 hpl p2 rfl (by rw [k13]; rfl) (fun c hc => by rw [hS13 _ (List.mem_map_of_mem hc)]; rfl) (fun σ1 hF hI => ?_))
    refine wq_ri d272_224 (rfl) ?_
    exact hQ σ1 hF hI
  · -- case 15
    have e6 : rl_k l i = 15 := hp_inj (by omega) (by decide) e6
    have hQ := hQ' (by omega)
    clear hQ'
    rw [rl_o15 e6] at hQ
    rw [e6] at hS hR
    have hs := x1 (by omega)
    refine wq_l 226 d272_225 rfl rfl rfl rfl ?_
    refine wq_l 227 d272_226 rfl rfl rfl rfl ?_
    refine wq_v 230 [_] d272_227 rfl rfl m297 rfl rfl (Nat.le_of_ble_eq_true rfl) rfl (re297 hG h i0 (fun σ1 hF hI => ?_))
    refine wq_ri d272_230 (rfl) ?_
    exact hQ σ1 hF hI
  · -- case 16
    have e6 : rl_k l i = 16 := hp_inj (by omega) (by decide) e6
    have hQ := hQ' (by omega)
    clear hQ'
    rw [rl_o16 e6] at hQ
    rw [e6] at hS hR
    have hs := x1 (by omega)
    obtain ⟨ee, uu, ii, eE, kA, _⟩ : ∃ e u i', (rl_c l i).map (rl_k l) = e :: (u ++ i') ∧ sh_E e ∧ (∀ x ∈ u, x = 17) ∧ (i' = [] ∨ i' = [11]) := hS
    obtain ⟨hi2, hz2, k6, m1, _⟩ := lg_h hG i0 eE
    have ht := chX (i + 1) m1 (by omega) (by omega) (by rw [k6]; exact kA)
    have ef := (rt_f (rr_T h) hG i0).trans (if_pos hz2)
    have b1 := rt_b (rr_T h) hi2
    have et := rt_t h hi2
    have en := rl_numT ht
    refine wq_l 232 d272_231 rfl rfl rfl rfl ?_
    refine wq_gr (ci := 10) (j := 23) (q := 56) 235 d272_232 rfl rfl rfl rfl ?_
    refine wq_l 236 d272_235 rfl rfl rfl rfl ?_
    refine wq_gr (ci := 10) (j := 19) (q := 52) 239 d272_236 rfl rfl rfl rfl ?_
    refine wq_l 240 d272_239 rfl rfl rfl rfl ?_
    refine wq_al 241 d272_240 rfl rfl rfl (bi) ?_
    rw [ef]
    refine wq_al 242 d272_241 rfl rfl rfl (b1) ?_
    rw [et]
    refine wq_b 249 245 d272_242 rfl (by decide) rfl (fun c242 => ?_) (fun c242 => ?_)
    · -- pc 249
      refine wq_k 251 34 d272_249 (by decide) rfl ?_
      refine wq_ri d272_251 (rfl) ?_
      rw [i_le] at c242
      have c242 : _ ≤ (0 : Int) := c242
      exact rr_q1 (k := 34) hQ (rr_Fi h) (if_neg (by rw [en]; exact fun z => by have := of_decide_eq_true z; omega)) (by decide)
    · -- pc 245
      refine wq_k 246 0 d272_245 (by decide) rfl ?_
      refine wq_g 251 d272_246 (by decide) ?_
      refine wq_ri d272_251 (rfl) ?_
      rw [i_le] at c242
      have c242 : ¬ _ ≤ (0 : Int) := c242
      exact rr_q0 hQ h (if_pos (by rw [en]; exact decide_eq_true (by omega)))
  · -- default
    have w6_0 := e6 (0, 88) (by decide)
    have w6_1 := e6 (1, 93) (by decide)
    have w6_2 := e6 (2, 93) (by decide)
    have w6_3 := e6 (3, 93) (by decide)
    have w6_4 := e6 (4, 99) (by decide)
    have w6_5 := e6 (5, 141) (by decide)
    have w6_6 := e6 (6, 147) (by decide)
    have w6_7 := e6 (7, 153) (by decide)
    have w6_8 := e6 (8, 159) (by decide)
    have w6_9 := e6 (9, 173) (by decide)
    have w6_10 := e6 (10, 179) (by decide)
    have w6_11 := e6 (11, 252) (by decide)
    have w6_12 := e6 (12, 207) (by decide)
    have w6_13 := e6 (13, 213) (by decide)
    have w6_14 := e6 (14, 219) (by decide)
    have w6_15 := e6 (15, 225) (by decide)
    have w6_16 := e6 (16, 231) (by decide)
    have hQ := hQ' (fun z => w6_5 (by rw [z]; rfl))
    refine wq_l 253 d272_252 rfl rfl rfl rfl ?_
    refine wq_l 254 d272_253 rfl rfl rfl rfl ?_
    refine wq_v 257 [_] d272_254 rfl rfl m298 rfl rfl (Nat.le_of_ble_eq_true rfl) rfl (re298 hG h0r h i0 cx' hch hfb (by
  have nk : ∀ k : Nat, (rl_k l i = k → nI (rl_k l i) = nI k) := fun k z => by rw [z]
  have v4 : ¬ rl_k l i = 4 := fun z => w6_4 (nk 4 z)
  have v5 : ¬ rl_k l i = 5 := fun z => w6_5 (nk 5 z)
  have v6 : ¬ rl_k l i = 6 := fun z => w6_6 (nk 6 z)
  have v7 : ¬ rl_k l i = 7 := fun z => w6_7 (nk 7 z)
  have v8 : ¬ rl_k l i = 8 := fun z => w6_8 (nk 8 z)
  have v9 : ¬ rl_k l i = 9 := fun z => w6_9 (nk 9 z)
  have v10 : ¬ rl_k l i = 10 := fun z => w6_10 (nk 10 z)
  have v11 : ¬ rl_k l i = 11 := fun z => w6_11 (nk 11 z)
  have v12 : ¬ rl_k l i = 12 := fun z => w6_12 (nk 12 z)
  have v13 : ¬ rl_k l i = 13 := fun z => w6_13 (nk 13 z)
  have v14 : ¬ rl_k l i = 14 := fun z => w6_14 (nk 14 z)
  have v15 : ¬ rl_k l i = 15 := fun z => w6_15 (nk 15 z)
  have v16 : ¬ rl_k l i = 16 := fun z => w6_16 (nk 16 z)
  omega) (fun σ1 hF hI => ?_))
    refine wq_ri d272_257 (rfl) ?_
    exact hQ σ1 hF hI
