theorem d298_0 : decode prog_14_method_118_code 0 = .ok (.aload_n 0, 1) := by decide +kernel
theorem d298_1 : decode prog_14_method_118_code 1 = .ok (.getfield 29, 3) := by decide +kernel
theorem d298_4 : decode prog_14_method_118_code 4 = .ok (.iload_n 1, 1) := by decide +kernel
theorem d298_5 : decode prog_14_method_118_code 5 = .ok (.iaload, 1) := by decide +kernel
theorem d298_6 : decode prog_14_method_118_code 6 = .ok (.tableswitch 226 18 36 #[90, 96, 102, 226, 226, 108, 226, 114, 226, 226, 135, 141, 162, 187, 196, 202, 208, 214, 220], 90) := by decide +kernel
theorem d298_96 : decode prog_14_method_118_code 96 = .ok (.aload_n 0, 1) := by decide +kernel
theorem d298_97 : decode prog_14_method_118_code 97 = .ok (.iload_n 1, 1) := by decide +kernel
theorem d298_98 : decode prog_14_method_118_code 98 = .ok (.invokevirtual 671, 3) := by decide +kernel
theorem d298_101 : decode prog_14_method_118_code 101 = .ok (.ireturn, 1) := by decide +kernel
theorem d298_102 : decode prog_14_method_118_code 102 = .ok (.aload_n 0, 1) := by decide +kernel
theorem d298_103 : decode prog_14_method_118_code 103 = .ok (.iload_n 1, 1) := by decide +kernel
theorem d298_104 : decode prog_14_method_118_code 104 = .ok (.invokevirtual 674, 3) := by decide +kernel
theorem d298_107 : decode prog_14_method_118_code 107 = .ok (.ireturn, 1) := by decide +kernel
theorem d298_108 : decode prog_14_method_118_code 108 = .ok (.aload_n 0, 1) := by decide +kernel
theorem d298_109 : decode prog_14_method_118_code 109 = .ok (.iload_n 1, 1) := by decide +kernel
theorem d298_110 : decode prog_14_method_118_code 110 = .ok (.invokevirtual 677, 3) := by decide +kernel
theorem d298_113 : decode prog_14_method_118_code 113 = .ok (.ireturn, 1) := by decide +kernel
theorem d298_114 : decode prog_14_method_118_code 114 = .ok (.aload_n 0, 1) := by decide +kernel
theorem d298_115 : decode prog_14_method_118_code 115 = .ok (.iload_n 1, 1) := by decide +kernel
theorem d298_116 : decode prog_14_method_118_code 116 = .ok (.invokevirtual 680, 3) := by decide +kernel
theorem d298_119 : decode prog_14_method_118_code 119 = .ok (.ireturn, 1) := by decide +kernel
theorem d298_120 : decode prog_14_method_118_code 120 = .ok (.aload_n 0, 1) := by decide +kernel
theorem d298_121 : decode prog_14_method_118_code 121 = .ok (.getfield 50, 3) := by decide +kernel
theorem d298_124 : decode prog_14_method_118_code 124 = .ok (.aload_n 0, 1) := by decide +kernel
theorem d298_125 : decode prog_14_method_118_code 125 = .ok (.getfield 38, 3) := by decide +kernel
theorem d298_128 : decode prog_14_method_118_code 128 = .ok (.iload_n 1, 1) := by decide +kernel
theorem d298_129 : decode prog_14_method_118_code 129 = .ok (.iaload, 1) := by decide +kernel
theorem d298_130 : decode prog_14_method_118_code 130 = .ok (.iaload, 1) := by decide +kernel
theorem d298_131 : decode prog_14_method_118_code 131 = .ok (.ifCond .ne 7, 3) := by decide +kernel
theorem d298_134 : decode prog_14_method_118_code 134 = .ok (.iconst 0, 1) := by decide +kernel
theorem d298_135 : decode prog_14_method_118_code 135 = .ok (.goto 5, 3) := by decide +kernel
theorem d298_138 : decode prog_14_method_118_code 138 = .ok (.bipush 41, 2) := by decide +kernel
theorem d298_140 : decode prog_14_method_118_code 140 = .ok (.ireturn, 1) := by decide +kernel
theorem d298_141 : decode prog_14_method_118_code 141 = .ok (.aload_n 0, 1) := by decide +kernel
theorem d298_142 : decode prog_14_method_118_code 142 = .ok (.iload_n 1, 1) := by decide +kernel
theorem d298_143 : decode prog_14_method_118_code 143 = .ok (.invokevirtual 683, 3) := by decide +kernel
theorem d298_146 : decode prog_14_method_118_code 146 = .ok (.ireturn, 1) := by decide +kernel
theorem d298_147 : decode prog_14_method_118_code 147 = .ok (.aload_n 0, 1) := by decide +kernel
theorem d298_148 : decode prog_14_method_118_code 148 = .ok (.getfield 44, 3) := by decide +kernel
theorem d298_151 : decode prog_14_method_118_code 151 = .ok (.aload_n 0, 1) := by decide +kernel
theorem d298_152 : decode prog_14_method_118_code 152 = .ok (.getfield 47, 3) := by decide +kernel
theorem d298_155 : decode prog_14_method_118_code 155 = .ok (.iload_n 1, 1) := by decide +kernel
theorem d298_156 : decode prog_14_method_118_code 156 = .ok (.iaload, 1) := by decide +kernel
theorem d298_157 : decode prog_14_method_118_code 157 = .ok (.iaload, 1) := by decide +kernel
theorem d298_158 : decode prog_14_method_118_code 158 = .ok (.ifCond .ge 8, 3) := by decide +kernel
theorem d298_161 : decode prog_14_method_118_code 161 = .ok (.bipush 40, 2) := by decide +kernel
theorem d298_163 : decode prog_14_method_118_code 163 = .ok (.goto 4, 3) := by decide +kernel
theorem d298_166 : decode prog_14_method_118_code 166 = .ok (.iconst 0, 1) := by decide +kernel
theorem d298_167 : decode prog_14_method_118_code 167 = .ok (.ireturn, 1) := by decide +kernel
theorem d298_168 : decode prog_14_method_118_code 168 = .ok (.aload_n 0, 1) := by decide +kernel
theorem d298_169 : decode prog_14_method_118_code 169 = .ok (.getfield 50, 3) := by decide +kernel
theorem d298_172 : decode prog_14_method_118_code 172 = .ok (.iload_n 1, 1) := by decide +kernel
theorem d298_173 : decode prog_14_method_118_code 173 = .ok (.aload_n 0, 1) := by decide +kernel
theorem d298_174 : decode prog_14_method_118_code 174 = .ok (.getfield 35, 3) := by decide +kernel
theorem d298_177 : decode prog_14_method_118_code 177 = .ok (.iload_n 1, 1) := by decide +kernel
theorem d298_178 : decode prog_14_method_118_code 178 = .ok (.iaload, 1) := by decide +kernel
theorem d298_179 : decode prog_14_method_118_code 179 = .ok (.sipush 32767, 3) := by decide +kernel
theorem d298_182 : decode prog_14_method_118_code 182 = .ok (.if_icmp .gt 7, 3) := by decide +kernel
theorem d298_185 : decode prog_14_method_118_code 185 = .ok (.iconst 1, 1) := by decide +kernel
theorem d298_186 : decode prog_14_method_118_code 186 = .ok (.goto 4, 3) := by decide +kernel
theorem d298_189 : decode prog_14_method_118_code 189 = .ok (.iconst 2, 1) := by decide +kernel
theorem d298_190 : decode prog_14_method_118_code 190 = .ok (.iastore, 1) := by decide +kernel
theorem d298_191 : decode prog_14_method_118_code 191 = .ok (.iconst 0, 1) := by decide +kernel
theorem d298_192 : decode prog_14_method_118_code 192 = .ok (.ireturn, 1) := by decide +kernel
theorem d298_193 : decode prog_14_method_118_code 193 = .ok (.aload_n 0, 1) := by decide +kernel
theorem d298_194 : decode prog_14_method_118_code 194 = .ok (.getfield 50, 3) := by decide +kernel
theorem d298_197 : decode prog_14_method_118_code 197 = .ok (.iload_n 1, 1) := by decide +kernel
theorem d298_198 : decode prog_14_method_118_code 198 = .ok (.iconst 0, 1) := by decide +kernel
theorem d298_199 : decode prog_14_method_118_code 199 = .ok (.iastore, 1) := by decide +kernel
theorem d298_200 : decode prog_14_method_118_code 200 = .ok (.iconst 0, 1) := by decide +kernel
theorem d298_201 : decode prog_14_method_118_code 201 = .ok (.ireturn, 1) := by decide +kernel
theorem d298_202 : decode prog_14_method_118_code 202 = .ok (.aload_n 0, 1) := by decide +kernel
theorem d298_203 : decode prog_14_method_118_code 203 = .ok (.iload_n 1, 1) := by decide +kernel
theorem d298_204 : decode prog_14_method_118_code 204 = .ok (.invokevirtual 686, 3) := by decide +kernel
theorem d298_207 : decode prog_14_method_118_code 207 = .ok (.ireturn, 1) := by decide +kernel
theorem d298_208 : decode prog_14_method_118_code 208 = .ok (.aload_n 0, 1) := by decide +kernel
theorem d298_209 : decode prog_14_method_118_code 209 = .ok (.iload_n 1, 1) := by decide +kernel
theorem d298_210 : decode prog_14_method_118_code 210 = .ok (.invokevirtual 689, 3) := by decide +kernel
theorem d298_213 : decode prog_14_method_118_code 213 = .ok (.ireturn, 1) := by decide +kernel
theorem d298_214 : decode prog_14_method_118_code 214 = .ok (.aload_n 0, 1) := by decide +kernel
theorem d298_215 : decode prog_14_method_118_code 215 = .ok (.iload_n 1, 1) := by decide +kernel
theorem d298_216 : decode prog_14_method_118_code 216 = .ok (.invokevirtual 692, 3) := by decide +kernel
theorem d298_219 : decode prog_14_method_118_code 219 = .ok (.ireturn, 1) := by decide +kernel
theorem d298_220 : decode prog_14_method_118_code 220 = .ok (.aload_n 0, 1) := by decide +kernel
theorem d298_221 : decode prog_14_method_118_code 221 = .ok (.iload_n 1, 1) := by decide +kernel
theorem d298_222 : decode prog_14_method_118_code 222 = .ok (.invokevirtual 695, 3) := by decide +kernel
theorem d298_225 : decode prog_14_method_118_code 225 = .ok (.ireturn, 1) := by decide +kernel
theorem d298_226 : decode prog_14_method_118_code 226 = .ok (.aload_n 0, 1) := by decide +kernel
theorem d298_227 : decode prog_14_method_118_code 227 = .ok (.iload_n 1, 1) := by decide +kernel
theorem d298_228 : decode prog_14_method_118_code 228 = .ok (.invokevirtual 698, 3) := by decide +kernel
theorem d298_231 : decode prog_14_method_118_code 231 = .ok (.ireturn, 1) := by decide +kernel
theorem d298_232 : decode prog_14_method_118_code 232 = .ok (.iconst 0, 1) := by decide +kernel
theorem d298_233 : decode prog_14_method_118_code 233 = .ok (.ireturn, 1) := by decide +kernel
theorem m298 : pm_m 298 = some (⟨"TypeRulesModel", "moreRules", "(I)I"⟩, prog_14_method_118_code, 2, (some FieldType.int), 10, 1, 11) := rfl
/-! THE RULES of the reference, one by one: moreRules -/
theorem re298 {d : Nat} {l : List pg_N} {a : Nat → Nat} {R : Int32 → Int32 → Prop} {σ0 σ : pm_S} {u : Nat} {A : rl_A} {Q : Option Value → pm_S → Prop} {NN i : Nat} (hG : lg_G l NN) (h0r : rl_k l 0 = 0) (h : rr_I l a R σ0 σ true u A) (i0 : i < l.length) (cx : cx_L l A i) (hch : ∀ c ∈ rl_c l i, pe_N l A c) (hfb : ∀ b y, rl_blk A.1 b = some y → y.1 = 1 → y.2.2.1 + 1 < y.2.2.1 + rl_z l y.2.2.1 ∧ rp_nk (rl_k l (y.2.2.1 + 1)) = false) (hk : rl_k l i = 11 ∨ 17 ≤ rl_k l i) (hQ : rr_Q l a R σ0 true u (rl_out l A i) Q) : pm_call pm_Y0 (d + 5) 298 [.ref 10, .int (nI (a i))] σ Q := by
  obtain ⟨hp, hB, x1, x2, x3, x4, x5, x6⟩ := cx
  have kl := (lg_V hG i0).1
  have hS := lg_S hG i0
  have bi := rt_b (rr_T h) i0
  have kk := rt_k (rr_T h) i0
  have ipos : 0 < i := by
    rcases Nat.eq_zero_or_pos i with w | w
    · rw [w, h0r] at hk; exact absurd hk (by decide)
    · exact w
  obtain ⟨p1, p2, p3⟩ := lg_par hG i0 ipos
  have hR := lg_Rp hG i0 ipos
  have kp := (lg_V hG (show rl_par l i < l.length by omega)).1
  have chp : ∀ c ∈ rl_c l i, rl_par l c = i := fun c hc => (rl_upc' hG i0 hc).2
  have chX : ∀ c ∈ rl_c l i, rl_k l i ≠ 5 → rl_k l i ≠ 33 → sh_E (rl_k l c) → pv_T (A.2.1 c) := fun c hc h1 h2 h3 => (hch c hc).1 (by
    unfold pe_X
    rw [chp c hc]
    rcases h3 with w | w
    · exact Or.inr ⟨w, h1, h2⟩
    · exact Or.inl w)
  have zi := (rl_zc hG.1 i0).2
  refine wq_m m298 (Nat.le_of_ble_eq_true rfl) (by decide) rfl ?_
  refine wq_l 1 d298_0 rfl rfl rfl rfl ?_
  refine wq_gr (ci := 10) (j := 16) (q := 49) 4 d298_1 rfl rfl rfl rfl ?_
  refine wq_l 5 d298_4 rfl rfl rfl rfl ?_
  refine wq_al 6 d298_5 rfl rfl rfl (bi) ?_
  rw [kk]
  refine wq_tw [(18, 96), (19, 102), (20, 108), (21, 232), (22, 232), (23, 114), (24, 232), (25, 120), (26, 232), (27, 232), (28, 141), (29, 147), (30, 168), (31, 193), (32, 202), (33, 208), (34, 214), (35, 220), (36, 226)] 232 d298_6 (by decide) (List.forall_mem_cons.mpr ⟨fun e6 => ?_, List.forall_mem_cons.mpr ⟨fun e6 => ?_, List.forall_mem_cons.mpr ⟨fun e6 => ?_, List.forall_mem_cons.mpr ⟨fun e6 => ?_, List.forall_mem_cons.mpr ⟨fun e6 => ?_, List.forall_mem_cons.mpr ⟨fun e6 => ?_, List.forall_mem_cons.mpr ⟨fun e6 => ?_, List.forall_mem_cons.mpr ⟨fun e6 => ?_, List.forall_mem_cons.mpr ⟨fun e6 => ?_, List.forall_mem_cons.mpr ⟨fun e6 => ?_, List.forall_mem_cons.mpr ⟨fun e6 => ?_, List.forall_mem_cons.mpr ⟨fun e6 => ?_, List.forall_mem_cons.mpr ⟨fun e6 => ?_, List.forall_mem_cons.mpr ⟨fun e6 => ?_, List.forall_mem_cons.mpr ⟨fun e6 => ?_, List.forall_mem_cons.mpr ⟨fun e6 => ?_, List.forall_mem_cons.mpr ⟨fun e6 => ?_, List.forall_mem_cons.mpr ⟨fun e6 => ?_, List.forall_mem_cons.mpr ⟨fun e6 => ?_, fun _ h => absurd h List.not_mem_nil⟩⟩⟩⟩⟩⟩⟩⟩⟩⟩⟩⟩⟩⟩⟩⟩⟩⟩⟩) (fun e6 => ?_)
  · -- case 18
    have e6 : rl_k l i = 18 := hp_inj (by omega) (by decide) e6
    rw [rl_o18 e6] at hQ
    rw [e6] at hS hR
    have hs := x1 (by omega)
    obtain ⟨el, hel1, hel2, hel3, hi2, hz2, hka, hkb⟩ : ∃ el, (rl_c l i).getLast? = some el ∧ el < l.length ∧ (rl_c l i).getLastD 0 = el ∧ i + 1 < l.length ∧ i + 1 < i + rl_z l i ∧ rp_nk (rl_k l (i + 1)) = false ∧ rp_nk (rl_k l el) = false := by
      have hS : (∃ a, (rl_c l i).map (rl_k l) = [a] ∧ sh_K a) ∨ ∃ a b, (rl_c l i).map (rl_k l) = [a, b] ∧ sh_K a ∧ sh_K b := hS
      have nk : ∀ {x : Nat}, sh_K x → rp_nk x = false := fun w => by rcases w with w | w <;> (rw [w]; rfl)
      rcases hS with ⟨a, e, ka⟩ | ⟨a, b, e, ka, kb⟩
      · obtain ⟨a1, a2, a3, a4⟩ := lg_1 hG i0 e
        have := (rl_zc hG.1 a1).1
        exact ⟨i + 1, by rw [a2]; rfl, a1, by rw [a2]; rfl, a1, by omega, by rw [a3]; exact nk ka, by rw [a3]; exact nk ka⟩
      · obtain ⟨a1, a2, a3, a4, a5, a6⟩ := lg_2 hG i0 e
        have := (rl_zc hG.1 a1).1
        have := (rl_zc hG.1 a2).1
        exact ⟨i + 1 + rl_z l (i + 1), by rw [a3]; rfl, a2, by rw [a3]; rfl, a1, by omega, by rw [a4]; exact nk ka, by rw [a5]; exact nk kb⟩
    rw [hel3] at hQ
    refine wq_l 97 d298_96 rfl rfl rfl rfl ?_
    refine wq_l 98 d298_97 rfl rfl rfl rfl ?_
    refine wq_v 101 [_] d298_98 rfl rfl m299 rfl rfl (Nat.le_of_ble_eq_true rfl) rfl (re299 hG h hi2 hz2 hel2 hel1 hka hkb (fun σ1 hF hI => ?_))
    refine wq_ri d298_101 (rfl) ?_
    exact hQ σ1 hF hI
  · -- case 19
    have e6 : rl_k l i = 19 := hp_inj (by omega) (by decide) e6
    rw [rl_o19 e6] at hQ
    rw [e6] at hS hR
    have hs := x1 (by omega)
    refine wq_l 103 d298_102 rfl rfl rfl rfl ?_
    refine wq_l 104 d298_103 rfl rfl rfl rfl ?_
    refine wq_v 107 [_] d298_104 rfl rfl m300 rfl rfl (Nat.le_of_ble_eq_true rfl) rfl (re300 hG h hp hB hs i0 e6 (fun σ1 hF hI => ?_))
    refine wq_ri d298_107 (rfl) ?_
    exact hQ σ1 hF hI
  · -- case 20
    have e6 : rl_k l i = 20 := hp_inj (by omega) (by decide) e6
    rw [rl_o20 e6] at hQ
    rw [e6] at hS hR
    have hs := x1 (by omega)
    refine wq_l 109 d298_108 rfl rfl rfl rfl ?_
    refine wq_l 110 d298_109 rfl rfl rfl rfl ?_
    refine wq_v 113 [_] d298_110 rfl rfl m301 rfl rfl (Nat.le_of_ble_eq_true rfl) rfl (re301 hG h i0 (fun σ1 hF hI => ?_))
    refine wq_ri d298_113 (rfl) ?_
    exact hQ σ1 hF hI
  · -- case 21
    have e6 : rl_k l i = 21 := hp_inj (by omega) (by decide) e6
    rw [rl_on (by omega)] at hQ
    refine wq_k 233 0 d298_232 (by decide) rfl ?_
    refine wq_ri d298_233 (rfl) ?_
    exact rr_q0 hQ h rfl
  · -- case 22
    have e6 : rl_k l i = 22 := hp_inj (by omega) (by decide) e6
    rw [rl_o22 e6] at hQ
    rw [e6] at hS hR
    have hs := x1 (by omega)
    refine wq_k 233 0 d298_232 (by decide) rfl ?_
    refine wq_ri d298_233 (rfl) ?_
    obtain ⟨B, T⟩ := A
    cases B with
    | nil => exact absurd rfl hB
    | cons y r => exact rr_q0 hQ (rr_tk h) rfl
  · -- case 23
    have e6 : rl_k l i = 23 := hp_inj (by omega) (by decide) e6
    rw [rl_o23 e6] at hQ
    rw [e6] at hS hR
    have hs := x1 (by omega)
    obtain ⟨hi2, hz2⟩ : i + 1 < l.length ∧ i + 1 < i + rl_z l i := by
      have hS : (rl_c l i).map (rl_k l) ≠ [] ∧ ∀ x ∈ (rl_c l i).map (rl_k l), x = 24 := hS
      have : i + 1 < i + rl_z l i := by
        rcases Nat.lt_or_ge (i + 1) (i + rl_z l i) with w | w
        · exact w
        · exfalso
          apply hS.1
          rw [rl_crow, rl_row0 (by omega)]; rfl
      exact ⟨by omega, this⟩
    refine wq_l 115 d298_114 rfl rfl rfl rfl ?_
    refine wq_l 116 d298_115 rfl rfl rfl rfl ?_
    refine wq_v 119 [_] d298_116 rfl rfl m302 rfl rfl (Nat.le_of_ble_eq_true rfl) rfl (re302 hG h hi2 hz2 (fun σ1 hF hI => ?_))
    refine wq_ri d298_119 (rfl) ?_
    exact hQ σ1 hF hI
  · -- case 24
    have e6 : rl_k l i = 24 := hp_inj (by omega) (by decide) e6
    rw [rl_on (by omega)] at hQ
    refine wq_k 233 0 d298_232 (by decide) rfl ?_
    refine wq_ri d298_233 (rfl) ?_
    exact rr_q0 hQ h rfl
  · -- case 25
    have e6 : rl_k l i = 25 := hp_inj (by omega) (by decide) e6
    rw [rl_o25 e6] at hQ
    rw [e6] at hS hR
    have hs := x1 (by omega)
    obtain ⟨ka, eE, kA⟩ : ∃ a, (rl_c l i).map (rl_k l) = [a] ∧ (a = 6 ∨ (rl_k l i = 25 ∧ a = 33)) := by
      have hS := hS
      rcases (show (rl_c l i).map (rl_k l) = [6] ∨ (rl_c l i).map (rl_k l) = [33] from hS) with w | w
      · exact ⟨6, w, Or.inl rfl⟩
      · exact ⟨33, w, Or.inr ⟨e6, rfl⟩⟩
    obtain ⟨hi2, hc1, k6, _⟩ := lg_1 hG i0 eE
    have := (rl_zc hG.1 hi2).1
    have hz2 : i + 1 < i + rl_z l i := by omega
    have ef := (rt_f (rr_T h) hG i0).trans (if_pos hz2)
    have b1 := rt_b (rr_T h) hi2
    have et := rt_t h hi2
    refine wq_l 121 d298_120 rfl rfl rfl rfl ?_
    refine wq_gr (ci := 10) (j := 23) (q := 56) 124 d298_121 rfl rfl rfl rfl ?_
    refine wq_l 125 d298_124 rfl rfl rfl rfl ?_
    refine wq_gr (ci := 10) (j := 19) (q := 52) 128 d298_125 rfl rfl rfl rfl ?_
    refine wq_l 129 d298_128 rfl rfl rfl rfl ?_
    refine wq_al 130 d298_129 rfl rfl rfl (bi) ?_
    rw [ef]
    refine wq_al 131 d298_130 rfl rfl rfl (b1) ?_
    rw [et]
    refine wq_b 138 134 d298_131 rfl (by decide) rfl (fun c131 => ?_) (fun c131 => ?_)
    · -- pc 138
      refine wq_k 140 41 d298_138 (by decide) rfl ?_
      refine wq_ri d298_140 (rfl) ?_
      exact rr_q1 (k := 41) hQ (rr_Fi h) (if_neg c131) (by decide)
    · -- pc 134
      refine wq_k 135 0 d298_134 (by decide) rfl ?_
      refine wq_g 140 d298_135 (by decide) ?_
      refine wq_ri d298_140 (rfl) ?_
      exact rr_q0 hQ h (if_pos (Classical.not_not.mp c131))
  · -- case 26
    have e6 : rl_k l i = 26 := hp_inj (by omega) (by decide) e6
    rw [rl_on (by omega)] at hQ
    refine wq_k 233 0 d298_232 (by decide) rfl ?_
    refine wq_ri d298_233 (rfl) ?_
    exact rr_q0 hQ h rfl
  · -- case 27
    have e6 : rl_k l i = 27 := hp_inj (by omega) (by decide) e6
    rw [rl_on (by omega)] at hQ
    refine wq_k 233 0 d298_232 (by decide) rfl ?_
    refine wq_ri d298_233 (rfl) ?_
    exact rr_q0 hQ h rfl
  · -- case 28
    have e6 : rl_k l i = 28 := hp_inj (by omega) (by decide) e6
    rw [rl_o28 e6] at hQ
    rw [e6] at hS hR
    have hs := x1 (by omega)
    obtain ⟨ka, eE, kA⟩ : ∃ a, (rl_c l i).map (rl_k l) = [a] ∧ (a = 6 ∨ (rl_k l i = 25 ∧ a = 33)) := by
      have hS := hS
      exact ⟨6, hS, Or.inl rfl⟩
    obtain ⟨hi2, hc1, k6, _⟩ := lg_1 hG i0 eE
    have := (rl_zc hG.1 hi2).1
    have hz2 : i + 1 < i + rl_z l i := by omega
    have ef := (rt_f (rr_T h) hG i0).trans (if_pos hz2)
    have b1 := rt_b (rr_T h) hi2
    have et := rt_t h hi2
    have k6' : rl_k l (i + 1) = 6 := by omega
    have hfd := (hch (i + 1) (by rw [hc1]; simp)).2 (Or.inl ⟨k6', by rw [chp (i + 1) (by rw [hc1]; simp)]; omega, by rw [chp (i + 1) (by rw [hc1]; simp)]; omega⟩)
    refine wq_l 142 d298_141 rfl rfl rfl rfl ?_
    refine wq_l 143 d298_142 rfl rfl rfl rfl ?_
    refine wq_v 146 [_] d298_143 rfl rfl m304 rfl rfl (Nat.le_of_ble_eq_true rfl) rfl (re304 hG h hp hB hs hi2 hz2 (show rl_par l i < l.length by omega) p2 (by rw [k6']; rfl) hfd (fun σ1 hF hI => ?_))
    refine wq_ri d298_146 (rfl) ?_
    exact hQ σ1 hF hI
  · -- case 29
    have e6 : rl_k l i = 29 := hp_inj (by omega) (by decide) e6
    rw [rl_o29 e6] at hQ
    rw [e6] at hS hR
    have hs := x1 (by omega)
    have k24 : rl_k l (rl_par l i) = 24 := sh_kc _ (by omega) 29 (by decide) hR (by decide) (by decide)
    have p0 : 0 < rl_par l i := by
      rcases Nat.eq_zero_or_pos (rl_par l i) with w | w
      · rw [w] at k24; omega
      · exact w
    obtain ⟨pp1, pp2, pp3⟩ := lg_par hG (show rl_par l i < l.length by omega) p0
    have eq' := (rt_q (rr_T h) hG i0).trans (if_neg (by omega))
    have bq := rt_b (rr_T h) (show rl_par l i < l.length by omega)
    have en := rt_n (rr_T h) hG (show rl_par l (rl_par l i) < l.length by omega) pp2
    have cmp := rl_cm pp2
    have zz := rl_zl hG.1 (show rl_par l (rl_par l i) < l.length by omega) cmp.1 cmp.2
    refine wq_l 148 d298_147 rfl rfl rfl rfl ?_
    refine wq_gr (ci := 10) (j := 21) (q := 54) 151 d298_148 rfl rfl rfl rfl ?_
    refine wq_l 152 d298_151 rfl rfl rfl rfl ?_
    refine wq_gr (ci := 10) (j := 22) (q := 55) 155 d298_152 rfl rfl rfl rfl ?_
    refine wq_l 156 d298_155 rfl rfl rfl rfl ?_
    refine wq_al 157 d298_156 rfl rfl rfl (bi) ?_
    rw [eq']
    refine wq_al 158 d298_157 rfl rfl rfl (bq) ?_
    rw [en]
    refine wq_b 166 161 d298_158 rfl (by decide) rfl (fun c158 => ?_) (fun c158 => ?_)
    · -- pc 166
      refine wq_k 167 0 d298_166 (by decide) rfl ?_
      refine wq_ri d298_167 (rfl) ?_
      refine rr_q0 hQ h (if_neg (fun z => ?_))
      rw [if_neg (by omega)] at c158
      exact absurd c158 (by decide)
    · -- pc 161
      refine wq_k 163 40 d298_161 (by decide) rfl ?_
      refine wq_g 167 d298_163 (by decide) ?_
      refine wq_ri d298_167 (rfl) ?_
      refine rr_q1 (k := 40) hQ (rr_Fi h) (if_pos ?_) (by decide)
      by_cases w : rl_par l i + rl_z l (rl_par l i) < rl_par l (rl_par l i) + rl_z l (rl_par l (rl_par l i))
      · exfalso
        have wl : rl_par l i + rl_z l (rl_par l i) < l.length := by have := (rl_zc hG.1 (show rl_par l (rl_par l i) < l.length by omega)).2; omega
        have ew := nI_toInt (n := a (rl_par l i + rl_z l (rl_par l i))) (by have := ((rr_T h).2.2.1 _ wl).1; omega)
        rw [if_pos w] at c158
        exact c158 (by rw [i_le, ew]; show (0 : Int) ≤ _; omega)
      · omega
  · -- case 30
    have e6 : rl_k l i = 30 := hp_inj (by omega) (by decide) e6
    rw [rl_o30 e6] at hQ
    have vv := rt_v (rr_T h) i0 (by rw [e6]; rfl)
    refine wq_l 169 d298_168 rfl rfl rfl rfl ?_
    refine wq_gr (ci := 10) (j := 23) (q := 56) 172 d298_169 rfl rfl rfl rfl ?_
    refine wq_l 173 d298_172 rfl rfl rfl rfl ?_
    refine wq_l 174 d298_173 rfl rfl rfl rfl ?_
    refine wq_gr (ci := 10) (j := 18) (q := 51) 177 d298_174 rfl rfl rfl rfl ?_
    refine wq_l 178 d298_177 rfl rfl rfl rfl ?_
    refine wq_al 179 d298_178 rfl rfl rfl (bi) ?_
    rw [vv]
    refine wq_k 182 32767 d298_179 (by decide) rfl ?_
    refine wq_b 189 185 d298_182 rfl (by decide) rfl (fun c182 => ?_) (fun c182 => ?_)
    · -- pc 189
      refine wq_k 190 2 d298_189 (by decide) rfl ?_
      refine wq_as 191 d298_190 rfl rfl rfl (bi) ?_
      refine wq_k 192 0 d298_191 (by decide) rfl ?_
      refine wq_ri d298_192 (rfl) ?_
      rw [i_lt] at c182
      have c182 : (32767 : Int) < _ := c182
      have hx := rr_ty h i0 2
      rw [if_neg (by omega)] at hQ
      exact rr_q0 hQ hx rfl
    · -- pc 185
      refine wq_k 186 1 d298_185 (by decide) rfl ?_
      refine wq_g 190 d298_186 (by decide) ?_
      refine wq_as 191 d298_190 rfl rfl rfl (bi) ?_
      refine wq_k 192 0 d298_191 (by decide) rfl ?_
      refine wq_ri d298_192 (rfl) ?_
      rw [i_lt] at c182
      have c182 : ¬ (32767 : Int) < _ := c182
      have hx := rr_ty h i0 1
      rw [if_pos (by omega)] at hQ
      exact rr_q0 hQ hx rfl
  · -- case 31
    have e6 : rl_k l i = 31 := hp_inj (by omega) (by decide) e6
    rw [rl_o31 e6] at hQ
    refine wq_l 194 d298_193 rfl rfl rfl rfl ?_
    refine wq_gr (ci := 10) (j := 23) (q := 56) 197 d298_194 rfl rfl rfl rfl ?_
    refine wq_l 198 d298_197 rfl rfl rfl rfl ?_
    refine wq_k 199 0 d298_198 (by decide) rfl ?_
    refine wq_as 200 d298_199 rfl rfl rfl (bi) ?_
    refine wq_k 201 0 d298_200 (by decide) rfl ?_
    refine wq_ri d298_201 (rfl) ?_
    exact rr_q0 hQ (rr_ty h i0 0) rfl
  · -- case 32
    have e6 : rl_k l i = 32 := hp_inj (by omega) (by decide) e6
    rw [rl_o32 e6] at hQ
    rw [e6] at hS hR
    have hs := x1 (by omega)
    obtain ⟨ka, eE, kA⟩ : ∃ e, (rl_c l i).map (rl_k l) = [e] ∧ sh_E e := hS
    obtain ⟨hi2, hc1, k6, _⟩ := lg_1 hG i0 eE
    have := (rl_zc hG.1 hi2).1
    have hz2 : i + 1 < i + rl_z l i := by omega
    have ht := chX (i + 1) (by rw [hc1]; simp) (by omega) (by omega) (by rw [k6]; exact kA)
    refine wq_l 203 d298_202 rfl rfl rfl rfl ?_
    refine wq_l 204 d298_203 rfl rfl rfl rfl ?_
    refine wq_v 207 [_] d298_204 rfl rfl m305 rfl rfl (Nat.le_of_ble_eq_true rfl) rfl (re305 hG h hp hB hs hi2 hz2 (by rw [e6]; rfl) ht (fun σ1 hF hI => ?_))
    refine wq_ri d298_207 (rfl) ?_
    exact hQ σ1 hF hI
  · -- case 33
    have e6 : rl_k l i = 33 := hp_inj (by omega) (by decide) e6
    rw [rl_o33 e6] at hQ
    rw [e6] at hS hR
    have hs := x1 (by omega)
    obtain ⟨ka, eE, kA⟩ : ∃ a, (rl_c l i).map (rl_k l) = [a] ∧ (a = 6 ∨ (rl_k l i = 25 ∧ a = 33)) := by
      have hS := hS
      exact ⟨6, hS, Or.inl rfl⟩
    obtain ⟨hi2, hc1, k6, _⟩ := lg_1 hG i0 eE
    have := (rl_zc hG.1 hi2).1
    have hz2 : i + 1 < i + rl_z l i := by omega
    have ef := (rt_f (rr_T h) hG i0).trans (if_pos hz2)
    have b1 := rt_b (rr_T h) hi2
    have et := rt_t h hi2
    refine wq_l 209 d298_208 rfl rfl rfl rfl ?_
    refine wq_l 210 d298_209 rfl rfl rfl rfl ?_
    refine wq_v 213 [_] d298_210 rfl rfl m307 rfl rfl (Nat.le_of_ble_eq_true rfl) rfl (re307 hG h hp hB hs hi2 hz2 (by rw [e6]; rfl) (by rw [k6]; rcases kA with w | w; rw [w]; rfl; omega) (fun σ1 hF hI => ?_))
    refine wq_ri d298_213 (rfl) ?_
    exact hQ σ1 hF hI
  · -- case 34
    have e6 : rl_k l i = 34 := hp_inj (by omega) (by decide) e6
    rw [rl_o34 e6] at hQ
    rw [e6] at hS hR
    have hs := x1 (by omega)
    have hS : ∀ x ∈ (rl_c l i).map (rl_k l), sh_E x := hS
    refine wq_l 215 d298_214 rfl rfl rfl rfl ?_
    refine wq_l 216 d298_215 rfl rfl rfl rfl ?_
    refine wq_v 219 [_] d298_216 rfl rfl m308 rfl rfl (Nat.le_of_ble_eq_true rfl) rfl (re308 hG h hp hB i0 (by rw [e6]; rfl) (fun c hc => chX c hc (by omega) (by omega) (hS _ (List.mem_map_of_mem hc))) hfb (fun σ1 hF hI => ?_))
    refine wq_ri d298_219 (rfl) ?_
    exact hQ σ1 hF hI
  · -- case 35
    have e6 : rl_k l i = 35 := hp_inj (by omega) (by decide) e6
    rw [rl_o35 e6] at hQ
    rw [e6] at hS hR
    have hs := x1 (by omega)
    obtain ⟨ka, kb, eE, kA, kB⟩ : ∃ a b, (rl_c l i).map (rl_k l) = [a, b] ∧ sh_E a ∧ sh_E b := hS
    obtain ⟨hi2, hi3, hc1, k6, k7, _⟩ := lg_2 hG i0 eE
    have := (rl_zc hG.1 hi2).1
    have := (rl_zc hG.1 hi3).1
    have hz2 : i + 1 < i + rl_z l i := by omega
    have ht := chX (i + 1) (by rw [hc1]; simp) (by omega) (by omega) (by rw [k6]; exact kA)
    have ht2 := chX (i + 1 + rl_z l (i + 1)) (by rw [hc1]; simp) (by omega) (by omega) (by rw [k7]; exact kB)
    have gl : (rl_c l i).getLast? = some (i + 1 + rl_z l (i + 1)) := by rw [hc1]; rfl
    have gd : (rl_c l i).getD 1 0 = i + 1 + rl_z l (i + 1) := by rw [hc1]; rfl
    rw [gd] at hQ
    refine wq_l 221 d298_220 rfl rfl rfl rfl ?_
    refine wq_l 222 d298_221 rfl rfl rfl rfl ?_
    refine wq_v 225 [_] d298_222 rfl rfl m312 rfl rfl (Nat.le_of_ble_eq_true rfl) rfl (re312 hG h hi2 hz2 hi3 gl (by rw [e6]; rfl) ht ht2 (fun σ1 hF hI => ?_))
    refine wq_ri d298_225 (rfl) ?_
    exact hQ σ1 hF hI
  · -- case 36
    have e6 : rl_k l i = 36 := hp_inj (by omega) (by decide) e6
    rw [rl_o36 e6] at hQ
    rw [e6] at hS hR
    have hs := x1 (by omega)
    obtain ⟨ka, eE, kA⟩ : ∃ e, (rl_c l i).map (rl_k l) = [e] ∧ sh_E e := hS
    obtain ⟨hi2, hc1, k6, _⟩ := lg_1 hG i0 eE
    have := (rl_zc hG.1 hi2).1
    have hz2 : i + 1 < i + rl_z l i := by omega
    have ht := chX (i + 1) (by rw [hc1]; simp) (by omega) (by omega) (by rw [k6]; exact kA)
    refine wq_l 227 d298_226 rfl rfl rfl rfl ?_
    refine wq_l 228 d298_227 rfl rfl rfl rfl ?_
    refine wq_v 231 [_] d298_228 rfl rfl m313 rfl rfl (Nat.le_of_ble_eq_true rfl) rfl (re313 hG h hi2 hz2 (by rw [e6]; rfl) ht (fun σ1 hF hI => ?_))
    refine wq_ri d298_231 (rfl) ?_
    exact hQ σ1 hF hI
  · -- default
    have w6_18 := e6 (18, 96) (by decide)
    have w6_19 := e6 (19, 102) (by decide)
    have w6_20 := e6 (20, 108) (by decide)
    have w6_21 := e6 (21, 232) (by decide)
    have w6_22 := e6 (22, 232) (by decide)
    have w6_23 := e6 (23, 114) (by decide)
    have w6_24 := e6 (24, 232) (by decide)
    have w6_25 := e6 (25, 120) (by decide)
    have w6_26 := e6 (26, 232) (by decide)
    have w6_27 := e6 (27, 232) (by decide)
    have w6_28 := e6 (28, 141) (by decide)
    have w6_29 := e6 (29, 147) (by decide)
    have w6_30 := e6 (30, 168) (by decide)
    have w6_31 := e6 (31, 193) (by decide)
    have w6_32 := e6 (32, 202) (by decide)
    have w6_33 := e6 (33, 208) (by decide)
    have w6_34 := e6 (34, 214) (by decide)
    have w6_35 := e6 (35, 220) (by decide)
    have w6_36 := e6 (36, 226) (by decide)
    refine wq_k 233 0 d298_232 (by decide) rfl ?_
    refine wq_ri d298_233 (rfl) ?_
    rw [rl_on (by
      clear hQ x1 x2 x3 x4 x5 x6 hS
      have nk : ∀ k : Nat, (rl_k l i = k → nI (rl_k l i) = nI k) := fun k z => by rw [z]
      have v18 : ¬ rl_k l i = 18 := fun z => w6_18 (nk 18 z)
      have v19 : ¬ rl_k l i = 19 := fun z => w6_19 (nk 19 z)
      have v20 : ¬ rl_k l i = 20 := fun z => w6_20 (nk 20 z)
      have v21 : ¬ rl_k l i = 21 := fun z => w6_21 (nk 21 z)
      have v22 : ¬ rl_k l i = 22 := fun z => w6_22 (nk 22 z)
      have v23 : ¬ rl_k l i = 23 := fun z => w6_23 (nk 23 z)
      have v24 : ¬ rl_k l i = 24 := fun z => w6_24 (nk 24 z)
      have v25 : ¬ rl_k l i = 25 := fun z => w6_25 (nk 25 z)
      have v26 : ¬ rl_k l i = 26 := fun z => w6_26 (nk 26 z)
      have v27 : ¬ rl_k l i = 27 := fun z => w6_27 (nk 27 z)
      have v28 : ¬ rl_k l i = 28 := fun z => w6_28 (nk 28 z)
      have v29 : ¬ rl_k l i = 29 := fun z => w6_29 (nk 29 z)
      have v30 : ¬ rl_k l i = 30 := fun z => w6_30 (nk 30 z)
      have v31 : ¬ rl_k l i = 31 := fun z => w6_31 (nk 31 z)
      have v32 : ¬ rl_k l i = 32 := fun z => w6_32 (nk 32 z)
      have v33 : ¬ rl_k l i = 33 := fun z => w6_33 (nk 33 z)
      have v34 : ¬ rl_k l i = 34 := fun z => w6_34 (nk 34 z)
      have v35 : ¬ rl_k l i = 35 := fun z => w6_35 (nk 35 z)
      have v36 : ¬ rl_k l i = 36 := fun z => w6_36 (nk 36 z)
      omega)] at hQ
    exact rr_q0 hQ h rfl
