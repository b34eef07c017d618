theorem d308_0 : decode prog_14_method_100_code 0 = .ok (.aload_n 0, 1) := by decide +kernel
theorem d308_1 : decode prog_14_method_100_code 1 = .ok (.getfield 22, 3) := by decide +kernel
theorem d308_4 : decode prog_14_method_100_code 4 = .ok (.aload_n 0, 1) := by decide +kernel
theorem d308_5 : decode prog_14_method_100_code 5 = .ok (.getfield 35, 3) := by decide +kernel
theorem d308_8 : decode prog_14_method_100_code 8 = .ok (.iload_n 1, 1) := by decide +kernel
theorem d308_9 : decode prog_14_method_100_code 9 = .ok (.iaload, 1) := by decide +kernel
theorem d308_10 : decode prog_14_method_100_code 10 = .ok (.laload, 1) := by decide +kernel
theorem d308_11 : decode prog_14_method_100_code 11 = .ok (.invokestatic 562, 3) := by decide +kernel
theorem d308_14 : decode prog_14_method_100_code 14 = .ok (.istore_n 2, 1) := by decide +kernel
theorem d308_15 : decode prog_14_method_100_code 15 = .ok (.aload_n 0, 1) := by decide +kernel
theorem d308_16 : decode prog_14_method_100_code 16 = .ok (.aload_n 0, 1) := by decide +kernel
theorem d308_17 : decode prog_14_method_100_code 17 = .ok (.getfield 35, 3) := by decide +kernel
theorem d308_20 : decode prog_14_method_100_code 20 = .ok (.iload_n 1, 1) := by decide +kernel
theorem d308_21 : decode prog_14_method_100_code 21 = .ok (.iaload, 1) := by decide +kernel
theorem d308_22 : decode prog_14_method_100_code 22 = .ok (.aload_n 0, 1) := by decide +kernel
theorem d308_23 : decode prog_14_method_100_code 23 = .ok (.getfield 542, 3) := by decide +kernel
theorem d308_26 : decode prog_14_method_100_code 26 = .ok (.iconst 1, 1) := by decide +kernel
theorem d308_27 : decode prog_14_method_100_code 27 = .ok (.isub, 1) := by decide +kernel
theorem d308_28 : decode prog_14_method_100_code 28 = .ok (.invokevirtual 565, 3) := by decide +kernel
theorem d308_31 : decode prog_14_method_100_code 31 = .ok (.istore_n 3, 1) := by decide +kernel
theorem d308_32 : decode prog_14_method_100_code 32 = .ok (.iload_n 2, 1) := by decide +kernel
theorem d308_33 : decode prog_14_method_100_code 33 = .ok (.ifCond .ge 22, 3) := by decide +kernel
theorem d308_36 : decode prog_14_method_100_code 36 = .ok (.iload_n 3, 1) := by decide +kernel
theorem d308_37 : decode prog_14_method_100_code 37 = .ok (.ifCond .lt 22, 3) := by decide +kernel
theorem d308_40 : decode prog_14_method_100_code 40 = .ok (.aload_n 0, 1) := by decide +kernel
theorem d308_41 : decode prog_14_method_100_code 41 = .ok (.getfield 29, 3) := by decide +kernel
theorem d308_44 : decode prog_14_method_100_code 44 = .ok (.aload_n 0, 1) := by decide +kernel
theorem d308_45 : decode prog_14_method_100_code 45 = .ok (.getfield 74, 3) := by decide +kernel
theorem d308_48 : decode prog_14_method_100_code 48 = .ok (.iload_n 3, 1) := by decide +kernel
theorem d308_49 : decode prog_14_method_100_code 49 = .ok (.iaload, 1) := by decide +kernel
theorem d308_50 : decode prog_14_method_100_code 50 = .ok (.iaload, 1) := by decide +kernel
theorem d308_51 : decode prog_14_method_100_code 51 = .ok (.iconst 1, 1) := by decide +kernel
theorem d308_52 : decode prog_14_method_100_code 52 = .ok (.if_icmp .ne 7, 3) := by decide +kernel
theorem d308_55 : decode prog_14_method_100_code 55 = .ok (.iconst 1, 1) := by decide +kernel
theorem d308_56 : decode prog_14_method_100_code 56 = .ok (.goto 4, 3) := by decide +kernel
theorem d308_59 : decode prog_14_method_100_code 59 = .ok (.iconst 0, 1) := by decide +kernel
theorem d308_60 : decode prog_14_method_100_code 60 = .ok (.istore 4, 2) := by decide +kernel
theorem d308_62 : decode prog_14_method_100_code 62 = .ok (.iload 4, 2) := by decide +kernel
theorem d308_64 : decode prog_14_method_100_code 64 = .ok (.ifCond .ne 6, 3) := by decide +kernel
theorem d308_67 : decode prog_14_method_100_code 67 = .ok (.bipush 24, 2) := by decide +kernel
theorem d308_69 : decode prog_14_method_100_code 69 = .ok (.ireturn, 1) := by decide +kernel
theorem d308_70 : decode prog_14_method_100_code 70 = .ok (.iconst 0, 1) := by decide +kernel
theorem d308_71 : decode prog_14_method_100_code 71 = .ok (.istore 5, 2) := by decide +kernel
theorem d308_73 : decode prog_14_method_100_code 73 = .ok (.aload_n 0, 1) := by decide +kernel
theorem d308_74 : decode prog_14_method_100_code 74 = .ok (.getfield 38, 3) := by decide +kernel
theorem d308_77 : decode prog_14_method_100_code 77 = .ok (.iload_n 1, 1) := by decide +kernel
theorem d308_78 : decode prog_14_method_100_code 78 = .ok (.iaload, 1) := by decide +kernel
theorem d308_79 : decode prog_14_method_100_code 79 = .ok (.istore 6, 2) := by decide +kernel
theorem d308_81 : decode prog_14_method_100_code 81 = .ok (.iload 6, 2) := by decide +kernel
theorem d308_83 : decode prog_14_method_100_code 83 = .ok (.ifCond .lt 18, 3) := by decide +kernel
theorem d308_86 : decode prog_14_method_100_code 86 = .ok (.iinc 5 1, 3) := by decide +kernel
theorem d308_89 : decode prog_14_method_100_code 89 = .ok (.aload_n 0, 1) := by decide +kernel
theorem d308_90 : decode prog_14_method_100_code 90 = .ok (.getfield 44, 3) := by decide +kernel
theorem d308_93 : decode prog_14_method_100_code 93 = .ok (.iload 6, 2) := by decide +kernel
theorem d308_95 : decode prog_14_method_100_code 95 = .ok (.iaload, 1) := by decide +kernel
theorem d308_96 : decode prog_14_method_100_code 96 = .ok (.istore 6, 2) := by decide +kernel
theorem d308_98 : decode prog_14_method_100_code 98 = .ok (.goto (-17), 3) := by decide +kernel
theorem d308_101 : decode prog_14_method_100_code 101 = .ok (.iload 5, 2) := by decide +kernel
theorem d308_103 : decode prog_14_method_100_code 103 = .ok (.iload_n 2, 1) := by decide +kernel
theorem d308_104 : decode prog_14_method_100_code 104 = .ok (.ifCond .lt 10, 3) := by decide +kernel
theorem d308_107 : decode prog_14_method_100_code 107 = .ok (.iload_n 2, 1) := by decide +kernel
theorem d308_108 : decode prog_14_method_100_code 108 = .ok (.invokestatic 608, 3) := by decide +kernel
theorem d308_111 : decode prog_14_method_100_code 111 = .ok (.goto 8, 3) := by decide +kernel
theorem d308_114 : decode prog_14_method_100_code 114 = .ok (.aload_n 0, 1) := by decide +kernel
theorem d308_115 : decode prog_14_method_100_code 115 = .ok (.iload_n 3, 1) := by decide +kernel
theorem d308_116 : decode prog_14_method_100_code 116 = .ok (.invokevirtual 611, 3) := by decide +kernel
theorem d308_119 : decode prog_14_method_100_code 119 = .ok (.if_icmp .eq 6, 3) := by decide +kernel
theorem d308_122 : decode prog_14_method_100_code 122 = .ok (.bipush 25, 2) := by decide +kernel
theorem d308_124 : decode prog_14_method_100_code 124 = .ok (.ireturn, 1) := by decide +kernel
theorem d308_125 : decode prog_14_method_100_code 125 = .ok (.aload_n 0, 1) := by decide +kernel
theorem d308_126 : decode prog_14_method_100_code 126 = .ok (.getfield 56, 3) := by decide +kernel
theorem d308_129 : decode prog_14_method_100_code 129 = .ok (.iload_n 1, 1) := by decide +kernel
theorem d308_130 : decode prog_14_method_100_code 130 = .ok (.iload_n 2, 1) := by decide +kernel
theorem d308_131 : decode prog_14_method_100_code 131 = .ok (.ifCond .lt 7, 3) := by decide +kernel
theorem d308_134 : decode prog_14_method_100_code 134 = .ok (.iload_n 2, 1) := by decide +kernel
theorem d308_135 : decode prog_14_method_100_code 135 = .ok (.goto 4, 3) := by decide +kernel
theorem d308_138 : decode prog_14_method_100_code 138 = .ok (.iload_n 3, 1) := by decide +kernel
theorem d308_139 : decode prog_14_method_100_code 139 = .ok (.iastore, 1) := by decide +kernel
theorem d308_140 : decode prog_14_method_100_code 140 = .ok (.iload_n 2, 1) := by decide +kernel
theorem d308_141 : decode prog_14_method_100_code 141 = .ok (.ifCond .lt 10, 3) := by decide +kernel
theorem d308_144 : decode prog_14_method_100_code 144 = .ok (.aload_n 0, 1) := by decide +kernel
theorem d308_145 : decode prog_14_method_100_code 145 = .ok (.iload_n 1, 1) := by decide +kernel
theorem d308_146 : decode prog_14_method_100_code 146 = .ok (.iload_n 2, 1) := by decide +kernel
theorem d308_147 : decode prog_14_method_100_code 147 = .ok (.invokevirtual 614, 3) := by decide +kernel
theorem d308_150 : decode prog_14_method_100_code 150 = .ok (.ireturn, 1) := by decide +kernel
theorem d308_151 : decode prog_14_method_100_code 151 = .ok (.aload_n 0, 1) := by decide +kernel
theorem d308_152 : decode prog_14_method_100_code 152 = .ok (.getfield 38, 3) := by decide +kernel
theorem d308_155 : decode prog_14_method_100_code 155 = .ok (.iload_n 1, 1) := by decide +kernel
theorem d308_156 : decode prog_14_method_100_code 156 = .ok (.iaload, 1) := by decide +kernel
theorem d308_157 : decode prog_14_method_100_code 157 = .ok (.istore 6, 2) := by decide +kernel
theorem d308_159 : decode prog_14_method_100_code 159 = .ok (.aload_n 0, 1) := by decide +kernel
theorem d308_160 : decode prog_14_method_100_code 160 = .ok (.getfield 77, 3) := by decide +kernel
theorem d308_163 : decode prog_14_method_100_code 163 = .ok (.iload_n 3, 1) := by decide +kernel
theorem d308_164 : decode prog_14_method_100_code 164 = .ok (.iaload, 1) := by decide +kernel
theorem d308_165 : decode prog_14_method_100_code 165 = .ok (.istore 7, 2) := by decide +kernel
theorem d308_167 : decode prog_14_method_100_code 167 = .ok (.iload 7, 2) := by decide +kernel
theorem d308_169 : decode prog_14_method_100_code 169 = .ok (.aload_n 0, 1) := by decide +kernel
theorem d308_170 : decode prog_14_method_100_code 170 = .ok (.getfield 80, 3) := by decide +kernel
theorem d308_173 : decode prog_14_method_100_code 173 = .ok (.iload_n 3, 1) := by decide +kernel
theorem d308_174 : decode prog_14_method_100_code 174 = .ok (.iaload, 1) := by decide +kernel
theorem d308_175 : decode prog_14_method_100_code 175 = .ok (.if_icmp .ge 52, 3) := by decide +kernel
theorem d308_178 : decode prog_14_method_100_code 178 = .ok (.aload_n 0, 1) := by decide +kernel
theorem d308_179 : decode prog_14_method_100_code 179 = .ok (.getfield 98, 3) := by decide +kernel
theorem d308_182 : decode prog_14_method_100_code 182 = .ok (.iload 7, 2) := by decide +kernel
theorem d308_184 : decode prog_14_method_100_code 184 = .ok (.iaload, 1) := by decide +kernel
theorem d308_185 : decode prog_14_method_100_code 185 = .ok (.iconst 1, 1) := by decide +kernel
theorem d308_186 : decode prog_14_method_100_code 186 = .ok (.if_icmp .ne 35, 3) := by decide +kernel
theorem d308_189 : decode prog_14_method_100_code 189 = .ok (.aload_n 0, 1) := by decide +kernel
theorem d308_190 : decode prog_14_method_100_code 190 = .ok (.getfield 50, 3) := by decide +kernel
theorem d308_193 : decode prog_14_method_100_code 193 = .ok (.iload 6, 2) := by decide +kernel
theorem d308_195 : decode prog_14_method_100_code 195 = .ok (.iaload, 1) := by decide +kernel
theorem d308_196 : decode prog_14_method_100_code 196 = .ok (.aload_n 0, 1) := by decide +kernel
theorem d308_197 : decode prog_14_method_100_code 197 = .ok (.getfield 95, 3) := by decide +kernel
theorem d308_200 : decode prog_14_method_100_code 200 = .ok (.iload 7, 2) := by decide +kernel
theorem d308_202 : decode prog_14_method_100_code 202 = .ok (.iaload, 1) := by decide +kernel
theorem d308_203 : decode prog_14_method_100_code 203 = .ok (.invokestatic 617, 3) := by decide +kernel
theorem d308_206 : decode prog_14_method_100_code 206 = .ok (.ifCond .ne 6, 3) := by decide +kernel
theorem d308_209 : decode prog_14_method_100_code 209 = .ok (.bipush 26, 2) := by decide +kernel
theorem d308_211 : decode prog_14_method_100_code 211 = .ok (.ireturn, 1) := by decide +kernel
theorem d308_212 : decode prog_14_method_100_code 212 = .ok (.aload_n 0, 1) := by decide +kernel
theorem d308_213 : decode prog_14_method_100_code 213 = .ok (.getfield 44, 3) := by decide +kernel
theorem d308_216 : decode prog_14_method_100_code 216 = .ok (.iload 6, 2) := by decide +kernel
theorem d308_218 : decode prog_14_method_100_code 218 = .ok (.iaload, 1) := by decide +kernel
theorem d308_219 : decode prog_14_method_100_code 219 = .ok (.istore 6, 2) := by decide +kernel
theorem d308_221 : decode prog_14_method_100_code 221 = .ok (.iinc 7 1, 3) := by decide +kernel
theorem d308_224 : decode prog_14_method_100_code 224 = .ok (.goto (-57), 3) := by decide +kernel
theorem d308_227 : decode prog_14_method_100_code 227 = .ok (.aload_n 0, 1) := by decide +kernel
theorem d308_228 : decode prog_14_method_100_code 228 = .ok (.getfield 50, 3) := by decide +kernel
theorem d308_231 : decode prog_14_method_100_code 231 = .ok (.iload_n 1, 1) := by decide +kernel
theorem d308_232 : decode prog_14_method_100_code 232 = .ok (.aload_n 0, 1) := by decide +kernel
theorem d308_233 : decode prog_14_method_100_code 233 = .ok (.getfield 35, 3) := by decide +kernel
theorem d308_236 : decode prog_14_method_100_code 236 = .ok (.aload_n 0, 1) := by decide +kernel
theorem d308_237 : decode prog_14_method_100_code 237 = .ok (.getfield 38, 3) := by decide +kernel
theorem d308_240 : decode prog_14_method_100_code 240 = .ok (.aload_n 0, 1) := by decide +kernel
theorem d308_241 : decode prog_14_method_100_code 241 = .ok (.getfield 74, 3) := by decide +kernel
theorem d308_244 : decode prog_14_method_100_code 244 = .ok (.iload_n 3, 1) := by decide +kernel
theorem d308_245 : decode prog_14_method_100_code 245 = .ok (.iaload, 1) := by decide +kernel
theorem d308_246 : decode prog_14_method_100_code 246 = .ok (.iaload, 1) := by decide +kernel
theorem d308_247 : decode prog_14_method_100_code 247 = .ok (.iaload, 1) := by decide +kernel
theorem d308_248 : decode prog_14_method_100_code 248 = .ok (.iastore, 1) := by decide +kernel
theorem d308_249 : decode prog_14_method_100_code 249 = .ok (.iconst 0, 1) := by decide +kernel
theorem d308_250 : decode prog_14_method_100_code 250 = .ok (.ireturn, 1) := by decide +kernel
theorem m308 : pm_m 308 = some (⟨"TypeRulesModel", "callRule", "(I)I"⟩, prog_14_method_100_code, 8, (some FieldType.int), 10, 1, 11) := rfl
/-! CALLS of the reference -/
theorem re308c {d : Nat} {l : List pg_N} {a : Nat → Nat} {R : Int32 → Int32 → Prop} {σ0 σ : pm_S} {fl : Bool} {u : Nat} {A : rl_A} {Q : Option Value → pm_S → Prop} {NN i : Nat} {f b g : Int32} {X : Value} (hG : lg_G l NN) (h : rr_I l a R σ0 σ fl u A) (hi : i < l.length) : ∀ (n c k : Nat), (rl_row l c (i + rl_z l i)).length = n → rl_cl l c (i + rl_z l i) → (∀ x ∈ rl_row l c (i + rl_z l i), x ∈ rl_c l i) → pm_WP pm_Y0 (pm_call pm_Y0 (d + 2)) 10 prog_14_method_100_code (some FieldType.int) Q 101 [.ref 10, .int (nI (a i)), .int f, .int b, .int g, .int (nI (k + n)), .int (-1), X] [] σ → pm_WP pm_Y0 (pm_call pm_Y0 (d + 2)) 10 prog_14_method_100_code (some FieldType.int) Q 81 [.ref 10, .int (nI (a i)), .int f, .int b, .int g, .int (nI k), .int (if c < i + rl_z l i then nI (a c) else -1), X] [] σ := by
  obtain ⟨z1, z2, z3⟩ := lg_cl hG hi
  intro n
  induction n with
  | zero =>
    intro c k hn hc hm hQ
    have q : ¬ c < i + rl_z l i := fun q => by rw [rl_rowu z1 hc q] at hn; exact absurd hn (by simp)
    rw [if_neg q]
    refine wq_l 83 d308_81 rfl rfl rfl rfl ?_
    refine wq_b 101 86 d308_83 rfl (by decide) rfl (fun c83 => ?_) (fun c83 => absurd (by decide) c83)
    exact hQ
  | succ n ih =>
    intro c k hn hc hm hQ
    have q : c < i + rl_z l i := by
      rcases Nat.lt_or_ge c (i + rl_z l i) with w | w
      · exact w
      · rw [rl_row0 (by omega)] at hn; exact absurd hn (by simp)
    have er := rl_rowu z1 hc q
    obtain ⟨c1, c2, c3⟩ := rl_clz hc q
    have mc : c ∈ rl_c l i := hm c (by rw [er]; exact List.mem_cons_self)
    have cl : c < l.length := by omega
    have bc := rt_b (rr_T h) cl
    have nc := rt_n (rr_T h) hG hi mc
    have nn : ¬ nI (a c) < 0 := by
      have := ((rr_T h).2.2.1 _ cl).1
      rw [i_lt, nI_toInt (by omega)]; show ¬ (_ : Int) < 0; omega
    rw [if_pos q]
    refine wq_l 83 d308_81 rfl rfl rfl rfl ?_
    refine wq_b 101 86 d308_83 rfl (by decide) rfl (fun c83 => absurd c83 (nn)) (fun c83 => ?_)
    refine wq_i 89 d308_86 rfl rfl rfl ?_
    refine wq_l 90 d308_89 rfl rfl rfl rfl ?_
    refine wq_gr (ci := 10) (j := 21) (q := 54) 93 d308_90 rfl rfl rfl rfl ?_
    refine wq_l 95 d308_93 rfl rfl rfl rfl ?_
    refine wq_al 96 d308_95 rfl rfl rfl (bc) ?_
    rw [nc]
    refine wq_s 98 d308_96 rfl rfl (Nat.le_of_ble_eq_true rfl) rfl rfl ?_
    refine wq_g 81 d308_98 (by decide) ?_
    rw [show nI k + Int32.ofInt 1 = nI (k + 1) from nI_1 k]
    refine ih (c + rl_z l c) (k + 1) (by rw [er, List.length_cons] at hn; omega) c3 (fun x hx => hm x (by rw [er]; exact List.mem_cons_of_mem _ hx)) ?_
    rw [show k + 1 + n = k + (n + 1) by omega]
    exact hQ
/-- arguments against inputs -/
def rl_fit (l : List pg_N) (A : rl_A) (cs : List Nat) (vs : List rl_V) : Bool := (cs.zip ((vs.filter rl_isin).map (fun v => v.2.2.1))).all (fun p => rl_fits (A.2.1 p.1) p.2)
theorem re308v {d : Nat} {l : List pg_N} {a : Nat → Nat} {R : Int32 → Int32 → Prop} {σ0 σ : pm_S} {fl : Bool} {u : Nat} {A : rl_A} {Q : Option Value → pm_S → Prop} {NN i b : Nat} {f g n5 : Int32} {y : rl_B} (hG : lg_G l NN) (h : rr_I l a R σ0 σ fl u A) (hi : i < l.length) (hb : rl_blk A.1 b = some y) (hst : ∀ v ∈ y.2.2.2.2, v.2.1 ≠ 3) (hv : ∀ v ∈ y.2.2.2.2, v.2.2.2.1 < 2 ^ 20 ∧ (v.2.2.2.1 ≠ 0 → v.2.1 = 0 ∨ v.2.1 = 3)) (hy1 : y.2.2.1 + 1 < y.2.2.1 + rl_z l y.2.2.1) (hyk : rp_nk (rl_k l (y.2.2.1 + 1)) = false) : ∀ (n j c : Nat), j + n = y.2.2.2.2.length → (rl_row l c (i + rl_z l i)).length = ((y.2.2.2.2.reverse.drop j).filter rl_isin).length → rl_cl l c (i + rl_z l i) → (∀ x ∈ rl_row l c (i + rl_z l i), x ∈ rl_c l i) → rr_Q l a R σ0 fl u (if rl_fit l A (rl_row l c (i + rl_z l i)) (y.2.2.2.2.reverse.drop j) = false then (26, A) else (0, rl_ty A i (rl_v l (y.2.2.1 + 1)))) Q → pm_WP pm_Y0 (pm_call pm_Y0 (d + 2)) 10 prog_14_method_100_code (some FieldType.int) Q 167 [.ref 10, .int (nI (a i)), .int f, .int (nI b), .int g, .int n5, .int (if c < i + rl_z l i then nI (a c) else -1), .int (nI (rv_fr A.1 b + j))] [] σ := by
  obtain ⟨z1, z2, z3⟩ := lg_cl hG hi
  have bi := rt_b (rr_T h) hi
  obtain ⟨g1, g2⟩ := rv_get hb
  have hG4 := h.2.2.2.2.2.1.1
  have hB9 := h.2.2.2.2.1.1
  have hbl := rl_blkl hb
  obtain ⟨b1, b2, b3, b4⟩ := h.2.2.2.2.1.2.2 b y hb
  have to := b4.2.2.1
  have eb := nI_toInt (n := b) (by omega)
  have ecb := nI_clamp (n := b) (by omega)
  have eto := nI_toInt (n := rv_fr A.1 b + y.2.2.2.2.length) (by omega)
  have yl : y.2.2.1 + 1 < l.length := by have := (lg_cl hG b1).1; omega
  have ef := (rt_f (rr_T h) hG b1).trans (if_pos hy1)
  intro n
  induction n with
  | zero =>
    intro j c hj hl hc hm hQ
    have ej := nI_toInt (n := rv_fr A.1 b + j) (by omega)
    have ed : y.2.2.2.2.reverse.drop j = [] := List.drop_eq_nil_of_le (by rw [List.length_reverse]; omega)
    rw [ed] at hQ
    rw [if_neg (by unfold rl_fit; rw [List.filter_nil, List.map_nil, List.zip_nil_right, List.all_nil]; decide)] at hQ
    refine wq_l 169 d308_167 rfl rfl rfl rfl ?_
    refine wq_l 170 d308_169 rfl rfl rfl rfl ?_
    refine wq_gr (ci := 10) (j := 38) (q := 66) 173 d308_170 rfl rfl rfl rfl ?_
    refine wq_l 174 d308_173 rfl rfl rfl rfl ?_
    refine wq_al 175 d308_174 rfl rfl rfl (vp_in_iff.mpr (by rw [eb]; omega)) ?_
    rw [ecb, to]
    refine wq_b 227 178 d308_175 rfl (by decide) rfl (fun c175 => ?_) (fun c175 => absurd (by rw [i_le, eto, ej]; omega) c175)
    refine wq_l 228 d308_227 rfl rfl rfl rfl ?_
    refine wq_gr (ci := 10) (j := 23) (q := 56) 231 d308_228 rfl rfl rfl rfl ?_
    refine wq_l 232 d308_231 rfl rfl rfl rfl ?_
    refine wq_l 233 d308_232 rfl rfl rfl rfl ?_
    refine wq_gr (ci := 10) (j := 18) (q := 51) 236 d308_233 rfl rfl rfl rfl ?_
    refine wq_l 237 d308_236 rfl rfl rfl rfl ?_
    refine wq_gr (ci := 10) (j := 19) (q := 52) 240 d308_237 rfl rfl rfl rfl ?_
    refine wq_l 241 d308_240 rfl rfl rfl rfl ?_
    refine wq_gr (ci := 10) (j := 36) (q := 64) 244 d308_241 rfl rfl rfl rfl ?_
    refine wq_l 245 d308_244 rfl rfl rfl rfl ?_
    refine wq_al 246 d308_245 rfl rfl rfl (vp_in_iff.mpr (by rw [eb]; omega)) ?_
    rw [ecb, b4.1]
    refine wq_al 247 d308_246 rfl rfl rfl (rt_b (rr_T h) b1) ?_
    rw [ef]
    refine wq_al 248 d308_247 rfl rfl rfl (rt_b (rr_T h) yl) ?_
    rw [rt_v (rr_T h) yl hyk]
    refine wq_as 249 d308_248 rfl rfl rfl (bi) ?_
    have h249 := rr_ty h hi (rl_v l (y.2.2.1 + 1))
    refine wq_k 250 0 d308_249 (by decide) rfl ?_
    refine wq_ri d308_250 (rfl) ?_
    exact rr_q0 hQ h249 rfl
  | succ n ih =>
    intro j c hj hl hc hm hQ
    have ej := nI_toInt (n := rv_fr A.1 b + j) (by omega)
    have ecj := nI_clamp (n := rv_fr A.1 b + j) (by omega)
    have hjl : j < y.2.2.2.2.reverse.length := by rw [List.length_reverse]; omega
    have ev : y.2.2.2.2.reverse[j]? = some (y.2.2.2.2.reverse[j]'hjl) := List.getElem?_eq_getElem hjl
    have eG := g2 j (by omega)
    rw [ev] at eG
    have ed := List.drop_eq_getElem_cons hjl
    have mem : (y.2.2.2.2.reverse[j]'hjl) ∈ y.2.2.2.2 := List.mem_reverse.mp (List.getElem_mem hjl)
    rw [ed] at hQ hl
    generalize y.2.2.2.2.reverse[j]'hjl = v at *
    have va := (h.2.2.2.2.2.1.2.2 _ v eG).2.1 (hst v mem)
    have vl := hv v mem
    have pt : σ.2.2 72 (rv_fr A.1 b + j) = 1 ↔ rl_isin v = true := by
      unfold rl_isin
      rw [decide_eq_true_eq, va.2.2.1]
      exact ⟨fun z => ⟨hp_inj (b := 1) (by omega) (by decide) z, hst v mem⟩, fun z => by rw [z.1]; rfl⟩
    by_cases w : rl_isin v = true
    · have q : c < i + rl_z l i := by
        rcases Nat.lt_or_ge c (i + rl_z l i) with w' | w'
        · exact w'
        · rw [rl_row0 (by omega), List.filter_cons_of_pos w] at hl; exact absurd hl (by simp)
      have er := rl_rowu z1 hc q
      obtain ⟨c1, c2, c3⟩ := rl_clz hc q
      have mc : c ∈ rl_c l i := hm c (by rw [er]; exact List.mem_cons_self)
      have cl : c < l.length := by omega
      have bc := rt_b (rr_T h) cl
      have nc := rt_n (rr_T h) hG hi mc
      have s0 : v.2.1 = 0 := by
        unfold rl_isin at w
        rw [decide_eq_true_eq] at w
        exact (vl.2 (by omega)).resolve_right w.2
      have tv : rv_t v = v.2.2.1 := by unfold rv_t; rw [if_neg (by rw [s0]; decide)]
      rw [er, List.filter_cons_of_pos w, List.length_cons, List.length_cons] at hl
      have efit : rl_fit l A (rl_row l c (i + rl_z l i)) (v :: y.2.2.2.2.reverse.drop (j + 1)) = (rl_fits (A.2.1 c) v.2.2.1 && rl_fit l A (rl_row l (c + rl_z l c) (i + rl_z l i)) (y.2.2.2.2.reverse.drop (j + 1))) := by
        unfold rl_fit
        rw [er, List.filter_cons_of_pos w, List.map_cons, List.zip_cons_cons, List.all_cons]
      rw [efit] at hQ
      rw [if_pos q]
      refine wq_l 169 d308_167 rfl rfl rfl rfl ?_
      refine wq_l 170 d308_169 rfl rfl rfl rfl ?_
      refine wq_gr (ci := 10) (j := 38) (q := 66) 173 d308_170 rfl rfl rfl rfl ?_
      refine wq_l 174 d308_173 rfl rfl rfl rfl ?_
      refine wq_al 175 d308_174 rfl rfl rfl (vp_in_iff.mpr (by rw [eb]; omega)) ?_
      rw [ecb, to]
      refine wq_b 227 178 d308_175 rfl (by decide) rfl (fun c175 => absurd c175 (by rw [i_le, eto, ej]; omega)) (fun c175 => ?_)
      refine wq_l 179 d308_178 rfl rfl rfl rfl ?_
      refine wq_gr (ci := 10) (j := 45) (q := 72) 182 d308_179 rfl rfl rfl rfl ?_
      refine wq_l 184 d308_182 rfl rfl rfl rfl ?_
      refine wq_al 185 d308_184 rfl rfl rfl (vp_in_iff.mpr (by rw [ej]; omega)) ?_
      rw [ecj]
      refine wq_k 186 1 d308_185 (by decide) rfl ?_
      refine wq_b 221 189 d308_186 rfl (by decide) rfl (fun c186 => absurd c186 (fun z => z (pt.mpr w))) (fun c186 => ?_)
      refine wq_l 190 d308_189 rfl rfl rfl rfl ?_
      refine wq_gr (ci := 10) (j := 23) (q := 56) 193 d308_190 rfl rfl rfl rfl ?_
      refine wq_l 195 d308_193 rfl rfl rfl rfl ?_
      refine wq_al 196 d308_195 rfl rfl rfl (bc) ?_
      rw [rt_t h cl]
      refine wq_l 197 d308_196 rfl rfl rfl rfl ?_
      refine wq_gr (ci := 10) (j := 44) (q := 71) 200 d308_197 rfl rfl rfl rfl ?_
      refine wq_l 202 d308_200 rfl rfl rfl rfl ?_
      refine wq_al 203 d308_202 rfl rfl rfl (vp_in_iff.mpr (by rw [ej]; omega)) ?_
      rw [ecj, va.2.1, tv]
      refine wq_vs 206 [_, _] d308_203 rfl rfl m290 rfl (Nat.le_of_ble_eq_true rfl) rfl (sp290 ?_)
      refine wq_b 212 209 d308_206 rfl (by decide) rfl (fun c206 => ?_) (fun c206 => ?_)
      · -- pc 212
        have f206 := b2n c206
        refine wq_l 213 d308_212 rfl rfl rfl rfl ?_
        refine wq_gr (ci := 10) (j := 21) (q := 54) 216 d308_213 rfl rfl rfl rfl ?_
        refine wq_l 218 d308_216 rfl rfl rfl rfl ?_
        refine wq_al 219 d308_218 rfl rfl rfl (bc) ?_
        rw [nc]
        refine wq_s 221 d308_219 rfl rfl (Nat.le_of_ble_eq_true rfl) rfl rfl ?_
        refine wq_i 224 d308_221 rfl rfl rfl ?_
        refine wq_g 167 d308_224 (by decide) ?_
        rw [show nI (rv_fr A.1 b + j) + Int32.ofInt 1 = nI (rv_fr A.1 b + (j + 1)) from nI_1 _]
        rw [f206, Bool.true_and] at hQ
        exact ih (j + 1) (c + rl_z l c) (by omega) (by omega) c3 (fun x hx => hm x (by rw [er]; exact List.mem_cons_of_mem _ hx)) hQ
      · -- pc 209
        have f206 := b2y c206
        refine wq_k 211 26 d308_209 (by decide) rfl ?_
        refine wq_ri d308_211 (rfl) ?_
        rw [f206, Bool.false_and, if_pos rfl] at hQ
        exact rr_q1 (k := 26) hQ (rr_Fi h) rfl (by decide)
    · rw [List.filter_cons_of_neg w] at hl
      have efit : rl_fit l A (rl_row l c (i + rl_z l i)) (v :: y.2.2.2.2.reverse.drop (j + 1)) = rl_fit l A (rl_row l c (i + rl_z l i)) (y.2.2.2.2.reverse.drop (j + 1)) := by
        unfold rl_fit
        rw [List.filter_cons_of_neg w]
      rw [efit] at hQ
      refine wq_l 169 d308_167 rfl rfl rfl rfl ?_
      refine wq_l 170 d308_169 rfl rfl rfl rfl ?_
      refine wq_gr (ci := 10) (j := 38) (q := 66) 173 d308_170 rfl rfl rfl rfl ?_
      refine wq_l 174 d308_173 rfl rfl rfl rfl ?_
      refine wq_al 175 d308_174 rfl rfl rfl (vp_in_iff.mpr (by rw [eb]; omega)) ?_
      rw [ecb, to]
      refine wq_b 227 178 d308_175 rfl (by decide) rfl (fun c175 => absurd c175 (by rw [i_le, eto, ej]; omega)) (fun c175 => ?_)
      refine wq_l 179 d308_178 rfl rfl rfl rfl ?_
      refine wq_gr (ci := 10) (j := 45) (q := 72) 182 d308_179 rfl rfl rfl rfl ?_
      refine wq_l 184 d308_182 rfl rfl rfl rfl ?_
      refine wq_al 185 d308_184 rfl rfl rfl (vp_in_iff.mpr (by rw [ej]; omega)) ?_
      rw [ecj]
      refine wq_k 186 1 d308_185 (by decide) rfl ?_
      refine wq_b 221 189 d308_186 rfl (by decide) rfl (fun c186 => ?_) (fun c186 => absurd (fun z => w (pt.mp z)) c186)
      refine wq_i 224 d308_221 rfl rfl rfl ?_
      refine wq_g 167 d308_224 (by decide) ?_
      rw [show nI (rv_fr A.1 b + j) + Int32.ofInt 1 = nI (rv_fr A.1 b + (j + 1)) from nI_1 _]
      exact ih (j + 1) c (by omega) hl hc hm hQ
theorem rl_clen {l : List pg_N} {NN i : Nat} (hG : lg_G l NN) : (rl_c l i).length ≤ 16386 := by
  have : ∀ (f s e : Nat), (rl_ch l f s e).length ≤ f := by
    intro f
    induction f with
    | zero => intro s e; exact Nat.le_refl _
    | succ f ih =>
      intro s e
      rw [rl_chu]
      by_cases q : s < e
      · rw [if_pos q, List.length_cons]; have := ih (s + rl_z l s) e; omega
      · rw [if_neg q, List.length_nil]; omega
  have := this l.length (i + 1) (i + rl_z l i)
  have := hG.2.2.2.1
  unfold rl_c
  omega
theorem rl_insf (y : rl_B) : rl_ins y = (y.2.2.2.2.reverse.filter rl_isin).map (fun v => v.2.2.1) := by
  unfold rl_ins
  rw [List.filter_reverse, List.map_reverse]
theorem rl_fnr {x : Int32} {f : Nat} (hx : 0 ≤ x.toInt) (h : rl_fn x = some f) : (50 ≤ x.toNatClampNeg ∧ x.toNatClampNeg < 60) ∧ nI (x.toNatClampNeg + 50) = nI (100 + f) := by
  have cx := cl_i x hx
  unfold rl_fn at h
  by_cases q : 50 ≤ x.toInt ∧ x.toInt < 60
  · rw [if_pos q] at h
    cases h
    refine ⟨by omega, ?_⟩
    congr 1; omega
  · rw [if_neg q] at h; cases h
theorem rl_fno {x : Int32} (hx : 0 ≤ x.toInt) (h : rl_fn x = none) : ¬ (50 ≤ x.toNatClampNeg ∧ x.toNatClampNeg < 60) := by
  have cx := cl_i x hx
  unfold rl_fn at h
  by_cases q : 50 ≤ x.toInt ∧ x.toInt < 60
  · rw [if_pos q] at h; cases h
  · omega
theorem rr_Qa {l : List pg_N} {a : Nat → Nat} {R : Int32 → Int32 → Prop} {σ0 : pm_S} {fl : Bool} {u k : Nat} {A A' : rl_A} {Q : Option Value → pm_S → Prop} (hk : k ≠ 0) (hQ : rr_Q l a R σ0 fl u (k, A) Q) : rr_Q l a R σ0 fl u (k, A') Q := fun σ' hF _ => hQ σ' hF (fun z => absurd z hk)
theorem re308 {d : Nat} {l : List pg_N} {a : Nat → Nat} {R : Int32 → Int32 → Prop} {σ0 σ : pm_S} {fl : Bool} {u : Nat} {A : rl_A} {Q : Option Value → pm_S → Prop} {NN i : Nat} (hG : lg_G l NN) (h : rr_I l a R σ0 σ fl u A) (hp : pv_B A.1) (hB : A.1 ≠ []) (hi : i < l.length) (hk : rp_nk (rl_k l i) = true) (ht : ∀ c ∈ rl_c l i, pv_T (A.2.1 c)) (hfb : ∀ b y, rl_blk A.1 b = some y → y.1 = 1 → y.2.2.1 + 1 < y.2.2.1 + rl_z l y.2.2.1 ∧ rp_nk (rl_k l (y.2.2.1 + 1)) = false) (hQ : rr_Q l a R σ0 fl u (rl_call l A i) Q) : pm_call pm_Y0 (d + 3) 308 [.ref 10, .int (nI (a i))] σ Q := by
  have hl := rl_len hB
  have e35 := h.2.2.2.2.1.2.1
  have hB9 := h.2.2.2.2.1.1
  have es : nI A.1.length - 1 = nI (A.1.length - 1) := nI_sbl (b := 1) (by omega)
  have hR := rt_R (rr_T h) hi hk
  have bi := rt_b (rr_T h) hi
  have em := rt_m (rr_T h) hi
  obtain ⟨r1, r2, r3, r4⟩ := (rr_R h).2 _ _ hR
  obtain ⟨z1, z2, z3⟩ := lg_cl hG hi
  have ef := rt_f (rr_T h) hG hi
  have hcl := rl_clen hG (i := i)
  cases hfn : rl_fn (rl_v l i) with
  | some f =>
    have hf := rl_fnl hfn
    obtain ⟨x1, x2⟩ := rl_fnr r1 hfn
    have ei := nI_toInt (n := 100 + f) (by omega)
    have nn : (0 : Int32) ≤ nI (100 + f) := by rw [i_le, ei]; show (0 : Int) ≤ _; omega
    rw [rl_call_f hfn] at hQ
    refine wq_m m308 (Nat.le_of_ble_eq_true rfl) (by decide) rfl ?_
    refine wq_l 1 d308_0 rfl rfl rfl rfl ?_
    refine wq_gr (ci := 10) (j := 13) (q := 47) 4 d308_1 rfl rfl rfl rfl ?_
    refine wq_l 5 d308_4 rfl rfl rfl rfl ?_
    refine wq_gr (ci := 10) (j := 18) (q := 51) 8 d308_5 rfl rfl rfl rfl ?_
    refine wq_l 9 d308_8 rfl rfl rfl rfl ?_
    refine wq_al 10 d308_9 rfl rfl rfl (bi) ?_
    rw [em]
    refine wq_ll 11 d308_10 rfl rfl (vp_in_iff.mpr ⟨r2, r3⟩) ?_
    refine wq_vs 14 [_] d308_11 rfl rfl m269 rfl (Nat.le_of_ble_eq_true rfl) rfl (sp269 (v := (rl_v l i).toNatClampNeg) r4 ?_)
    rw [if_pos x1, x2]
    refine wq_s 15 d308_14 rfl rfl (Nat.le_of_ble_eq_true rfl) rfl rfl ?_
    refine wq_l 16 d308_15 rfl rfl rfl rfl ?_
    refine wq_l 17 d308_16 rfl rfl rfl rfl ?_
    refine wq_gr (ci := 10) (j := 18) (q := 51) 20 d308_17 rfl rfl rfl rfl ?_
    refine wq_l 21 d308_20 rfl rfl rfl rfl ?_
    refine wq_al 22 d308_21 rfl rfl rfl (bi) ?_
    rw [em]
    refine wq_l 23 d308_22 rfl rfl rfl rfl ?_
    refine wq_gf (ci := 10) (j := 35) (f := 0) (v := .int (nI A.1.length)) 26 d308_23 rfl rfl rfl (congrArg Value.int (e35)) rfl ?_
    refine wq_k 27 1 d308_26 (by decide) rfl ?_
    refine wq_a 28 d308_27 rfl rfl ?_
    rw [es]
    refine wq_v 31 [_, _] d308_28 rfl rfl m270 rfl rfl (Nat.le_of_ble_eq_true rfl) rfl (re270t h hp hR ?_)
    refine wq_s 32 d308_31 rfl rfl (Nat.le_of_ble_eq_true rfl) rfl rfl ?_
    refine wq_l 33 d308_32 rfl rfl rfl rfl ?_
    refine wq_b 55 36 d308_33 rfl (by decide) rfl (fun c33 => ?_) (fun c33 => absurd (nn) c33)
    refine wq_k 56 1 d308_55 (by decide) rfl ?_
    refine wq_g 60 d308_56 (by decide) ?_
    refine wq_s 62 d308_60 rfl rfl (Nat.le_of_ble_eq_true rfl) rfl rfl ?_
    refine wq_l 64 d308_62 rfl rfl rfl rfl ?_
    refine wq_b 70 67 d308_64 rfl (by decide) rfl (fun c64 => ?_) (fun c64 => absurd (by decide) c64)
    refine wq_k 71 0 d308_70 (by decide) rfl ?_
    refine wq_s 73 d308_71 rfl rfl (Nat.le_of_ble_eq_true rfl) rfl rfl ?_
    refine wq_l 74 d308_73 rfl rfl rfl rfl ?_
    refine wq_gr (ci := 10) (j := 19) (q := 52) 77 d308_74 rfl rfl rfl rfl ?_
    refine wq_l 78 d308_77 rfl rfl rfl rfl ?_
    refine wq_al 79 d308_78 rfl rfl rfl (bi) ?_
    rw [ef]
    refine wq_s 81 d308_79 rfl rfl (Nat.le_of_ble_eq_true rfl) rfl rfl ?_
    refine re308c hG h hi (rl_c l i).length (i + 1) 0 rfl z3 (fun x hx => hx) ?_
    rw [Nat.zero_add]
    refine wq_l 103 d308_101 rfl rfl rfl rfl ?_
    refine wq_l 104 d308_103 rfl rfl rfl rfl ?_
    refine wq_b 114 107 d308_104 rfl (by decide) rfl (fun c104 => absurd c104 (Int32.not_lt.mpr nn)) (fun c104 => ?_)
    refine wq_l 108 d308_107 rfl rfl rfl rfl ?_
    refine wq_vs 111 [_] d308_108 rfl rfl m309 rfl (Nat.le_of_ble_eq_true rfl) rfl (sp309 (f := f) (by omega) ?_)
    refine wq_g 119 d308_111 (by decide) ?_
    refine wq_b 125 122 d308_119 rfl (by decide) rfl (fun c119 => ?_) (fun c119 => ?_)
    · -- pc 125
      have hn : (rl_c l i).length = rl_ops f := hp_inj (by omega) (by have := rl_ops3 f; omega) c119
      refine wq_l 126 d308_125 rfl rfl rfl rfl ?_
      refine wq_gr (ci := 10) (j := 25) (q := 58) 129 d308_126 rfl rfl rfl rfl ?_
      refine wq_l 130 d308_129 rfl rfl rfl rfl ?_
      refine wq_l 131 d308_130 rfl rfl rfl rfl ?_
      refine wq_b 138 134 d308_131 rfl (by decide) rfl (fun c131 => absurd c131 (Int32.not_lt.mpr nn)) (fun c131 => ?_)
      refine wq_l 135 d308_134 rfl rfl rfl rfl ?_
      refine wq_g 139 d308_135 (by decide) ?_
      refine wq_as 140 d308_139 rfl rfl rfl (bi) ?_
      have h139 := rr_me h hi (nI (100 + f))
      refine wq_l 141 d308_140 rfl rfl rfl rfl ?_
      refine wq_b 151 144 d308_141 rfl (by decide) rfl (fun c141 => absurd c141 (Int32.not_lt.mpr nn)) (fun c141 => ?_)
      refine wq_l 145 d308_144 rfl rfl rfl rfl ?_
      refine wq_l 146 d308_145 rfl rfl rfl rfl ?_
      refine wq_l 147 d308_146 rfl rfl rfl rfl ?_
      refine wq_v 150 [_, _] d308_147 rfl rfl m310 rfl rfl (Nat.le_of_ble_eq_true rfl) rfl (re310 hG h139 hi hf (show (rl_c l i).length = rl_ops f from hn) ht ?_)
      intro σ' hF hI
      refine wq_ri d308_150 rfl ?_
      rw [if_neg (fun z => z hn)] at hQ
      unfold rl_stq at hI ⊢
      show Q (some (.int (nI (if rl_std f (rl_tyc l A i 0) (rl_tyc l A i 1) (rl_tyc l A i 2) = -1 then (26, rl_me A i (nI (100 + f))) else (0, rl_ty (rl_me A i (nI (100 + f))) i (rl_std f (rl_tyc l A i 0) (rl_tyc l A i 1) (rl_tyc l A i 2)))).1))) σ'
      have hI : (if rl_std f (rl_tyc l A i 0) (rl_tyc l A i 1) (rl_tyc l A i 2) = -1 then (26, rl_me A i (nI (100 + f))) else (0, rl_ty (rl_me A i (nI (100 + f))) i (rl_std f (rl_tyc l A i 0) (rl_tyc l A i 1) (rl_tyc l A i 2)))).1 = 0 → rr_I l a R σ0 σ' fl u (if rl_std f (rl_tyc l A i 0) (rl_tyc l A i 1) (rl_tyc l A i 2) = -1 then (26, rl_me A i (nI (100 + f))) else (0, rl_ty (rl_me A i (nI (100 + f))) i (rl_std f (rl_tyc l A i 0) (rl_tyc l A i 1) (rl_tyc l A i 2)))).2 := hI
      by_cases q : rl_std f (rl_tyc l A i 0) (rl_tyc l A i 1) (rl_tyc l A i 2) = -1
      · rw [if_pos q] at hQ ⊢
        exact rr_q1 (k := 26) hQ hF rfl (by decide)
      · rw [if_neg q] at hQ hI ⊢
        exact hQ σ' hF (fun z => hI z)
    · -- pc 122
      refine wq_k 124 25 d308_122 (by decide) rfl ?_
      refine wq_ri d308_124 (rfl) ?_
      rw [if_pos (fun z => c119 (congrArg nI z))] at hQ
      exact rr_q1 (k := 25) hQ (rr_Fi h) rfl (by decide)
  | none =>
    have x1 := rl_fno r1 hfn
    cases ho : rl_own A.1.tail (rl_v l i) with
    | none =>
      rw [rl_call_n hfn ho] at hQ
      refine wq_m m308 (Nat.le_of_ble_eq_true rfl) (by decide) rfl ?_
      refine wq_l 1 d308_0 rfl rfl rfl rfl ?_
      refine wq_gr (ci := 10) (j := 13) (q := 47) 4 d308_1 rfl rfl rfl rfl ?_
      refine wq_l 5 d308_4 rfl rfl rfl rfl ?_
      refine wq_gr (ci := 10) (j := 18) (q := 51) 8 d308_5 rfl rfl rfl rfl ?_
      refine wq_l 9 d308_8 rfl rfl rfl rfl ?_
      refine wq_al 10 d308_9 rfl rfl rfl (bi) ?_
      rw [em]
      refine wq_ll 11 d308_10 rfl rfl (vp_in_iff.mpr ⟨r2, r3⟩) ?_
      refine wq_vs 14 [_] d308_11 rfl rfl m269 rfl (Nat.le_of_ble_eq_true rfl) rfl (sp269 (v := (rl_v l i).toNatClampNeg) r4 ?_)
      rw [if_neg x1]
      refine wq_s 15 d308_14 rfl rfl (Nat.le_of_ble_eq_true rfl) rfl rfl ?_
      refine wq_l 16 d308_15 rfl rfl rfl rfl ?_
      refine wq_l 17 d308_16 rfl rfl rfl rfl ?_
      refine wq_gr (ci := 10) (j := 18) (q := 51) 20 d308_17 rfl rfl rfl rfl ?_
      refine wq_l 21 d308_20 rfl rfl rfl rfl ?_
      refine wq_al 22 d308_21 rfl rfl rfl (bi) ?_
      rw [em]
      refine wq_l 23 d308_22 rfl rfl rfl rfl ?_
      refine wq_gf (ci := 10) (j := 35) (f := 0) (v := .int (nI A.1.length)) 26 d308_23 rfl rfl rfl (congrArg Value.int (e35)) rfl ?_
      refine wq_k 27 1 d308_26 (by decide) rfl ?_
      refine wq_a 28 d308_27 rfl rfl ?_
      rw [es]
      refine wq_v 31 [_, _] d308_28 rfl rfl m270 rfl rfl (Nat.le_of_ble_eq_true rfl) rfl (re270t h hp hR ?_)
      rw [ho]
      refine wq_s 32 d308_31 rfl rfl (Nat.le_of_ble_eq_true rfl) rfl rfl ?_
      refine wq_l 33 d308_32 rfl rfl rfl rfl ?_
      refine wq_b 55 36 d308_33 rfl (by decide) rfl (fun c33 => absurd c33 (by decide)) (fun c33 => ?_)
      refine wq_l 37 d308_36 rfl rfl rfl rfl ?_
      refine wq_b 59 40 d308_37 rfl (by decide) rfl (fun c37 => ?_) (fun c37 => absurd (by decide) c37)
      refine wq_k 60 0 d308_59 (by decide) rfl ?_
      refine wq_s 62 d308_60 rfl rfl (Nat.le_of_ble_eq_true rfl) rfl rfl ?_
      refine wq_l 64 d308_62 rfl rfl rfl rfl ?_
      refine wq_b 70 67 d308_64 rfl (by decide) rfl (fun c64 => absurd c64 (by decide)) (fun c64 => ?_)
      refine wq_k 69 24 d308_67 (by decide) rfl ?_
      refine wq_ri d308_69 (rfl) ?_
      exact rr_q1 (k := 24) hQ (rr_Fi h) rfl (by decide)
    | some w =>
      obtain ⟨b, y⟩ := w
      rw [rl_call_o hfn ho] at hQ
      obtain ⟨y1, y2⟩ := rl_ownb ho
      obtain ⟨y3, y4⟩ := rl_blkt y1
      obtain ⟨b1, b2, b3, b4⟩ := h.2.2.2.2.1.2.2 b y y3
      have eb := nI_toInt (n := b) (by omega)
      have ecb := nI_clamp (n := b) (by omega)
      have kk := rt_k (rr_T h) b1
      rw [b2] at kk
      obtain ⟨r', _, hY⟩ := pv_blk hp y3
      have hY1 := hY.1
      have nb : ¬ nI b < 0 := by rw [i_lt, eb]; show ¬ (b : Int) < 0; omega
      by_cases k1 : y.1 = 1
      · rw [if_neg (fun z => z k1)] at hQ
        obtain ⟨f1, f2⟩ := hfb b y y3 k1
        have hd := pv_dn hp y3 (by omega)
        refine wq_m m308 (Nat.le_of_ble_eq_true rfl) (by decide) rfl ?_
        refine wq_l 1 d308_0 rfl rfl rfl rfl ?_
        refine wq_gr (ci := 10) (j := 13) (q := 47) 4 d308_1 rfl rfl rfl rfl ?_
        refine wq_l 5 d308_4 rfl rfl rfl rfl ?_
        refine wq_gr (ci := 10) (j := 18) (q := 51) 8 d308_5 rfl rfl rfl rfl ?_
        refine wq_l 9 d308_8 rfl rfl rfl rfl ?_
        refine wq_al 10 d308_9 rfl rfl rfl (bi) ?_
        rw [em]
        refine wq_ll 11 d308_10 rfl rfl (vp_in_iff.mpr ⟨r2, r3⟩) ?_
        refine wq_vs 14 [_] d308_11 rfl rfl m269 rfl (Nat.le_of_ble_eq_true rfl) rfl (sp269 (v := (rl_v l i).toNatClampNeg) r4 ?_)
        rw [if_neg x1]
        refine wq_s 15 d308_14 rfl rfl (Nat.le_of_ble_eq_true rfl) rfl rfl ?_
        refine wq_l 16 d308_15 rfl rfl rfl rfl ?_
        refine wq_l 17 d308_16 rfl rfl rfl rfl ?_
        refine wq_gr (ci := 10) (j := 18) (q := 51) 20 d308_17 rfl rfl rfl rfl ?_
        refine wq_l 21 d308_20 rfl rfl rfl rfl ?_
        refine wq_al 22 d308_21 rfl rfl rfl (bi) ?_
        rw [em]
        refine wq_l 23 d308_22 rfl rfl rfl rfl ?_
        refine wq_gf (ci := 10) (j := 35) (f := 0) (v := .int (nI A.1.length)) 26 d308_23 rfl rfl rfl (congrArg Value.int (e35)) rfl ?_
        refine wq_k 27 1 d308_26 (by decide) rfl ?_
        refine wq_a 28 d308_27 rfl rfl ?_
        rw [es]
        refine wq_v 31 [_, _] d308_28 rfl rfl m270 rfl rfl (Nat.le_of_ble_eq_true rfl) rfl (re270t h hp hR ?_)
        rw [ho]
        rw [show hp_oi (Option.map (fun x => x.1) (some (b, y))) = nI b from rfl]
        refine wq_s 32 d308_31 rfl rfl (Nat.le_of_ble_eq_true rfl) rfl rfl ?_
        refine wq_l 33 d308_32 rfl rfl rfl rfl ?_
        refine wq_b 55 36 d308_33 rfl (by decide) rfl (fun c33 => absurd c33 (by decide)) (fun c33 => ?_)
        refine wq_l 37 d308_36 rfl rfl rfl rfl ?_
        refine wq_b 59 40 d308_37 rfl (by decide) rfl (fun c37 => absurd c37 (nb)) (fun c37 => ?_)
        refine wq_l 41 d308_40 rfl rfl rfl rfl ?_
        refine wq_gr (ci := 10) (j := 16) (q := 49) 44 d308_41 rfl rfl rfl rfl ?_
        refine wq_l 45 d308_44 rfl rfl rfl rfl ?_
        refine wq_gr (ci := 10) (j := 36) (q := 64) 48 d308_45 rfl rfl rfl rfl ?_
        refine wq_l 49 d308_48 rfl rfl rfl rfl ?_
        refine wq_al 50 d308_49 rfl rfl rfl (vp_in_iff.mpr (by rw [eb]; omega)) ?_
        rw [ecb, b4.1]
        refine wq_al 51 d308_50 rfl rfl rfl (rt_b (rr_T h) b1) ?_
        rw [kk]
        refine wq_k 52 1 d308_51 (by decide) rfl ?_
        refine wq_b 59 55 d308_52 rfl (by decide) rfl (fun c52 => absurd c52 (fun z => z (by rw [k1]; rfl))) (fun c52 => ?_)
        refine wq_k 56 1 d308_55 (by decide) rfl ?_
        refine wq_g 60 d308_56 (by decide) ?_
        refine wq_s 62 d308_60 rfl rfl (Nat.le_of_ble_eq_true rfl) rfl rfl ?_
        refine wq_l 64 d308_62 rfl rfl rfl rfl ?_
        refine wq_b 70 67 d308_64 rfl (by decide) rfl (fun c64 => ?_) (fun c64 => absurd (by decide) c64)
        refine wq_k 71 0 d308_70 (by decide) rfl ?_
        refine wq_s 73 d308_71 rfl rfl (Nat.le_of_ble_eq_true rfl) rfl rfl ?_
        refine wq_l 74 d308_73 rfl rfl rfl rfl ?_
        refine wq_gr (ci := 10) (j := 19) (q := 52) 77 d308_74 rfl rfl rfl rfl ?_
        refine wq_l 78 d308_77 rfl rfl rfl rfl ?_
        refine wq_al 79 d308_78 rfl rfl rfl (bi) ?_
        rw [ef]
        refine wq_s 81 d308_79 rfl rfl (Nat.le_of_ble_eq_true rfl) rfl rfl ?_
        refine re308c hG h hi (rl_c l i).length (i + 1) 0 rfl z3 (fun x hx => hx) ?_
        rw [Nat.zero_add]
        refine wq_l 103 d308_101 rfl rfl rfl rfl ?_
        refine wq_l 104 d308_103 rfl rfl rfl rfl ?_
        refine wq_b 114 107 d308_104 rfl (by decide) rfl (fun c104 => ?_) (fun c104 => absurd (by decide) c104)
        refine wq_l 115 d308_114 rfl rfl rfl rfl ?_
        refine wq_l 116 d308_115 rfl rfl rfl rfl ?_
        refine wq_v 119 [_] d308_116 rfl rfl m276 rfl rfl (Nat.le_of_ble_eq_true rfl) rfl (re276 h y3 (fun v hv => by have := (hY.2.2.2.2.1 v hv).2.1; omega) ?_)
        refine wq_b 125 122 d308_119 rfl (by decide) rfl (fun c119 => ?_) (fun c119 => ?_)
        · -- pc 125
          have hn : (rl_c l i).length = rl_nin y := hp_inj (by omega) (by have := hd.2.1 k1; omega) c119
          refine wq_l 126 d308_125 rfl rfl rfl rfl ?_
          refine wq_gr (ci := 10) (j := 25) (q := 58) 129 d308_126 rfl rfl rfl rfl ?_
          refine wq_l 130 d308_129 rfl rfl rfl rfl ?_
          refine wq_l 131 d308_130 rfl rfl rfl rfl ?_
          refine wq_b 138 134 d308_131 rfl (by decide) rfl (fun c131 => ?_) (fun c131 => absurd (by decide) c131)
          refine wq_l 139 d308_138 rfl rfl rfl rfl ?_
          refine wq_as 140 d308_139 rfl rfl rfl (bi) ?_
          rw [show pm_nr 0 (nI b) = nI b from rfl]
          have h139 := rr_me h hi (nI b)
          rw [if_neg (fun z => z hn)] at hQ
          refine wq_l 141 d308_140 rfl rfl rfl rfl ?_
          refine wq_b 151 144 d308_141 rfl (by decide) rfl (fun c141 => ?_) (fun c141 => absurd (by decide) c141)
          refine wq_l 152 d308_151 rfl rfl rfl rfl ?_
          refine wq_gr (ci := 10) (j := 19) (q := 52) 155 d308_152 rfl rfl rfl rfl ?_
          refine wq_l 156 d308_155 rfl rfl rfl rfl ?_
          refine wq_al 157 d308_156 rfl rfl rfl (bi) ?_
          rw [rt_f (rr_T h139) hG hi]
          refine wq_s 159 d308_157 rfl rfl (Nat.le_of_ble_eq_true rfl) rfl rfl ?_
          refine wq_l 160 d308_159 rfl rfl rfl rfl ?_
          refine wq_gr (ci := 10) (j := 37) (q := 65) 163 d308_160 rfl rfl rfl rfl ?_
          refine wq_l 164 d308_163 rfl rfl rfl rfl ?_
          refine wq_al 165 d308_164 rfl rfl rfl (vp_in_iff.mpr (by rw [eb]; omega)) ?_
          rw [pm_rne (by decide), ecb, b4.2.1]
          refine wq_s 167 d308_165 rfl rfl (Nat.le_of_ble_eq_true rfl) rfl rfl ?_
          refine re308v hG h139 hi y3 hd.1 (fun v hv => ⟨by have := (hY.2.2.2.2.1 v hv).2.1; omega, (hY.2.2.2.2.1 v hv).2.2.2.2.2.2⟩) f1 f2 y.2.2.2.2.length 0 (i + 1) (by omega) ?_ z3 (fun x hx => hx) ?_
          · rw [List.drop_zero, List.filter_reverse, List.length_reverse]
            exact hn
          · rw [List.drop_zero]
            rw [rl_insf] at hQ
            by_cases q : rl_fit l A (rl_c l i) y.2.2.2.2.reverse = false
            · rw [if_pos (show rl_fit l (rl_me A i (nI b)) (rl_row l (i + 1) (i + rl_z l i)) y.2.2.2.2.reverse = false from q)]
              unfold rl_fit at q
              rw [if_pos q] at hQ
              exact rr_Qa (by decide) hQ
            · rw [if_neg (show ¬ rl_fit l (rl_me A i (nI b)) (rl_row l (i + 1) (i + rl_z l i)) y.2.2.2.2.reverse = false from q)]
              unfold rl_fit at q
              rw [if_neg q] at hQ
              exact hQ
        · -- pc 122
          refine wq_k 124 25 d308_122 (by decide) rfl ?_
          refine wq_ri d308_124 (rfl) ?_
          rw [if_pos (fun z => c119 (congrArg nI z))] at hQ
          exact rr_q1 (k := 25) hQ (rr_Fi h) rfl (by decide)
      · rw [if_pos k1] at hQ
        refine wq_m m308 (Nat.le_of_ble_eq_true rfl) (by decide) rfl ?_
        refine wq_l 1 d308_0 rfl rfl rfl rfl ?_
        refine wq_gr (ci := 10) (j := 13) (q := 47) 4 d308_1 rfl rfl rfl rfl ?_
        refine wq_l 5 d308_4 rfl rfl rfl rfl ?_
        refine wq_gr (ci := 10) (j := 18) (q := 51) 8 d308_5 rfl rfl rfl rfl ?_
        refine wq_l 9 d308_8 rfl rfl rfl rfl ?_
        refine wq_al 10 d308_9 rfl rfl rfl (bi) ?_
        rw [em]
        refine wq_ll 11 d308_10 rfl rfl (vp_in_iff.mpr ⟨r2, r3⟩) ?_
        refine wq_vs 14 [_] d308_11 rfl rfl m269 rfl (Nat.le_of_ble_eq_true rfl) rfl (sp269 (v := (rl_v l i).toNatClampNeg) r4 ?_)
        rw [if_neg x1]
        refine wq_s 15 d308_14 rfl rfl (Nat.le_of_ble_eq_true rfl) rfl rfl ?_
        refine wq_l 16 d308_15 rfl rfl rfl rfl ?_
        refine wq_l 17 d308_16 rfl rfl rfl rfl ?_
        refine wq_gr (ci := 10) (j := 18) (q := 51) 20 d308_17 rfl rfl rfl rfl ?_
        refine wq_l 21 d308_20 rfl rfl rfl rfl ?_
        refine wq_al 22 d308_21 rfl rfl rfl (bi) ?_
        rw [em]
        refine wq_l 23 d308_22 rfl rfl rfl rfl ?_
        refine wq_gf (ci := 10) (j := 35) (f := 0) (v := .int (nI A.1.length)) 26 d308_23 rfl rfl rfl (congrArg Value.int (e35)) rfl ?_
        refine wq_k 27 1 d308_26 (by decide) rfl ?_
        refine wq_a 28 d308_27 rfl rfl ?_
        rw [es]
        refine wq_v 31 [_, _] d308_28 rfl rfl m270 rfl rfl (Nat.le_of_ble_eq_true rfl) rfl (re270t h hp hR ?_)
        rw [ho]
        rw [show hp_oi (Option.map (fun x => x.1) (some (b, y))) = nI b from rfl]
        refine wq_s 32 d308_31 rfl rfl (Nat.le_of_ble_eq_true rfl) rfl rfl ?_
        refine wq_l 33 d308_32 rfl rfl rfl rfl ?_
        refine wq_b 55 36 d308_33 rfl (by decide) rfl (fun c33 => absurd c33 (by decide)) (fun c33 => ?_)
        refine wq_l 37 d308_36 rfl rfl rfl rfl ?_
        refine wq_b 59 40 d308_37 rfl (by decide) rfl (fun c37 => absurd c37 (nb)) (fun c37 => ?_)
        refine wq_l 41 d308_40 rfl rfl rfl rfl ?_
        refine wq_gr (ci := 10) (j := 16) (q := 49) 44 d308_41 rfl rfl rfl rfl ?_
        refine wq_l 45 d308_44 rfl rfl rfl rfl ?_
        refine wq_gr (ci := 10) (j := 36) (q := 64) 48 d308_45 rfl rfl rfl rfl ?_
        refine wq_l 49 d308_48 rfl rfl rfl rfl ?_
        refine wq_al 50 d308_49 rfl rfl rfl (vp_in_iff.mpr (by rw [eb]; omega)) ?_
        rw [ecb, b4.1]
        refine wq_al 51 d308_50 rfl rfl rfl (rt_b (rr_T h) b1) ?_
        rw [kk]
        refine wq_k 52 1 d308_51 (by decide) rfl ?_
        refine wq_b 59 55 d308_52 rfl (by decide) rfl (fun c52 => ?_) (fun c52 => absurd (fun z => k1 (hp_inj (b := 1) (by omega) (by decide) z)) c52)
        refine wq_k 60 0 d308_59 (by decide) rfl ?_
        refine wq_s 62 d308_60 rfl rfl (Nat.le_of_ble_eq_true rfl) rfl rfl ?_
        refine wq_l 64 d308_62 rfl rfl rfl rfl ?_
        refine wq_b 70 67 d308_64 rfl (by decide) rfl (fun c64 => absurd c64 (by decide)) (fun c64 => ?_)
        refine wq_k 69 24 d308_67 (by decide) rfl ?_
        refine wq_ri d308_69 (rfl) ?_
        exact rr_q1 (k := 24) hQ (rr_Fi h) rfl (by decide)
