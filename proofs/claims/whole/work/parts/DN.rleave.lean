theorem d274_0 : decode prog_14_method_114_code 0 = .ok (.aload_n 0, 1) := by decide +kernel
theorem d274_1 : decode prog_14_method_114_code 1 = .ok (.getfield 542, 3) := by decide +kernel
theorem d274_4 : decode prog_14_method_114_code 4 = .ok (.iconst 1, 1) := by decide +kernel
theorem d274_5 : decode prog_14_method_114_code 5 = .ok (.isub, 1) := by decide +kernel
theorem d274_6 : decode prog_14_method_114_code 6 = .ok (.istore_n 2, 1) := by decide +kernel
theorem d274_7 : decode prog_14_method_114_code 7 = .ok (.aload_n 0, 1) := by decide +kernel
theorem d274_8 : decode prog_14_method_114_code 8 = .ok (.getfield 29, 3) := by decide +kernel
theorem d274_11 : decode prog_14_method_114_code 11 = .ok (.aload_n 0, 1) := by decide +kernel
theorem d274_12 : decode prog_14_method_114_code 12 = .ok (.getfield 41, 3) := by decide +kernel
theorem d274_15 : decode prog_14_method_114_code 15 = .ok (.iload_n 1, 1) := by decide +kernel
theorem d274_16 : decode prog_14_method_114_code 16 = .ok (.iaload, 1) := by decide +kernel
theorem d274_17 : decode prog_14_method_114_code 17 = .ok (.iaload, 1) := by decide +kernel
theorem d274_18 : decode prog_14_method_114_code 18 = .ok (.bipush 22, 2) := by decide +kernel
theorem d274_20 : decode prog_14_method_114_code 20 = .ok (.if_icmp .ne 9, 3) := by decide +kernel
theorem d274_23 : decode prog_14_method_114_code 23 = .ok (.sipush 156, 3) := by decide +kernel
theorem d274_26 : decode prog_14_method_114_code 26 = .ok (.goto 4, 3) := by decide +kernel
theorem d274_29 : decode prog_14_method_114_code 29 = .ok (.iconst 0, 1) := by decide +kernel
theorem d274_30 : decode prog_14_method_114_code 30 = .ok (.istore_n 3, 1) := by decide +kernel
theorem d274_31 : decode prog_14_method_114_code 31 = .ok (.iconst 0, 1) := by decide +kernel
theorem d274_32 : decode prog_14_method_114_code 32 = .ok (.istore 4, 2) := by decide +kernel
theorem d274_34 : decode prog_14_method_114_code 34 = .ok (.iload 4, 2) := by decide +kernel
theorem d274_36 : decode prog_14_method_114_code 36 = .ok (.iconst 2, 1) := by decide +kernel
theorem d274_37 : decode prog_14_method_114_code 37 = .ok (.if_icmp .ge 167, 3) := by decide +kernel
theorem d274_40 : decode prog_14_method_114_code 40 = .ok (.aload_n 0, 1) := by decide +kernel
theorem d274_41 : decode prog_14_method_114_code 41 = .ok (.getfield 38, 3) := by decide +kernel
theorem d274_44 : decode prog_14_method_114_code 44 = .ok (.iload_n 1, 1) := by decide +kernel
theorem d274_45 : decode prog_14_method_114_code 45 = .ok (.iaload, 1) := by decide +kernel
theorem d274_46 : decode prog_14_method_114_code 46 = .ok (.istore 5, 2) := by decide +kernel
theorem d274_48 : decode prog_14_method_114_code 48 = .ok (.iload 5, 2) := by decide +kernel
theorem d274_50 : decode prog_14_method_114_code 50 = .ok (.ifCond .lt 148, 3) := by decide +kernel
theorem d274_53 : decode prog_14_method_114_code 53 = .ok (.iload 4, 2) := by decide +kernel
theorem d274_55 : decode prog_14_method_114_code 55 = .ok (.ifCond .ne 35, 3) := by decide +kernel
theorem d274_58 : decode prog_14_method_114_code 58 = .ok (.aload_n 0, 1) := by decide +kernel
theorem d274_59 : decode prog_14_method_114_code 59 = .ok (.getfield 29, 3) := by decide +kernel
theorem d274_62 : decode prog_14_method_114_code 62 = .ok (.iload 5, 2) := by decide +kernel
theorem d274_64 : decode prog_14_method_114_code 64 = .ok (.iaload, 1) := by decide +kernel
theorem d274_65 : decode prog_14_method_114_code 65 = .ok (.bipush 16, 2) := by decide +kernel
theorem d274_67 : decode prog_14_method_114_code 67 = .ok (.if_icmp .eq 15, 3) := by decide +kernel
theorem d274_70 : decode prog_14_method_114_code 70 = .ok (.aload_n 0, 1) := by decide +kernel
theorem d274_71 : decode prog_14_method_114_code 71 = .ok (.getfield 29, 3) := by decide +kernel
theorem d274_74 : decode prog_14_method_114_code 74 = .ok (.iload 5, 2) := by decide +kernel
theorem d274_76 : decode prog_14_method_114_code 76 = .ok (.iaload, 1) := by decide +kernel
theorem d274_77 : decode prog_14_method_114_code 77 = .ok (.bipush 19, 2) := by decide +kernel
theorem d274_79 : decode prog_14_method_114_code 79 = .ok (.if_icmp .ne 7, 3) := by decide +kernel
theorem d274_82 : decode prog_14_method_114_code 82 = .ok (.iconst 1, 1) := by decide +kernel
theorem d274_83 : decode prog_14_method_114_code 83 = .ok (.goto 35, 3) := by decide +kernel
theorem d274_86 : decode prog_14_method_114_code 86 = .ok (.iconst 0, 1) := by decide +kernel
theorem d274_87 : decode prog_14_method_114_code 87 = .ok (.goto 31, 3) := by decide +kernel
theorem d274_90 : decode prog_14_method_114_code 90 = .ok (.aload_n 0, 1) := by decide +kernel
theorem d274_91 : decode prog_14_method_114_code 91 = .ok (.getfield 29, 3) := by decide +kernel
theorem d274_94 : decode prog_14_method_114_code 94 = .ok (.iload 5, 2) := by decide +kernel
theorem d274_96 : decode prog_14_method_114_code 96 = .ok (.iaload, 1) := by decide +kernel
theorem d274_97 : decode prog_14_method_114_code 97 = .ok (.bipush 25, 2) := by decide +kernel
theorem d274_99 : decode prog_14_method_114_code 99 = .ok (.if_icmp .ne 18, 3) := by decide +kernel
theorem d274_102 : decode prog_14_method_114_code 102 = .ok (.aload_n 0, 1) := by decide +kernel
theorem d274_103 : decode prog_14_method_114_code 103 = .ok (.getfield 35, 3) := by decide +kernel
theorem d274_106 : decode prog_14_method_114_code 106 = .ok (.iload 5, 2) := by decide +kernel
theorem d274_108 : decode prog_14_method_114_code 108 = .ok (.iaload, 1) := by decide +kernel
theorem d274_109 : decode prog_14_method_114_code 109 = .ok (.iconst 2, 1) := by decide +kernel
theorem d274_110 : decode prog_14_method_114_code 110 = .ok (.if_icmp .lt 7, 3) := by decide +kernel
theorem d274_113 : decode prog_14_method_114_code 113 = .ok (.iconst 1, 1) := by decide +kernel
theorem d274_114 : decode prog_14_method_114_code 114 = .ok (.goto 4, 3) := by decide +kernel
theorem d274_117 : decode prog_14_method_114_code 117 = .ok (.iconst 0, 1) := by decide +kernel
theorem d274_118 : decode prog_14_method_114_code 118 = .ok (.istore 6, 2) := by decide +kernel
theorem d274_120 : decode prog_14_method_114_code 120 = .ok (.iload 6, 2) := by decide +kernel
theorem d274_122 : decode prog_14_method_114_code 122 = .ok (.ifCond .eq 29, 3) := by decide +kernel
theorem d274_125 : decode prog_14_method_114_code 125 = .ok (.aload_n 0, 1) := by decide +kernel
theorem d274_126 : decode prog_14_method_114_code 126 = .ok (.getfield 29, 3) := by decide +kernel
theorem d274_129 : decode prog_14_method_114_code 129 = .ok (.iload 5, 2) := by decide +kernel
theorem d274_131 : decode prog_14_method_114_code 131 = .ok (.iaload, 1) := by decide +kernel
theorem d274_132 : decode prog_14_method_114_code 132 = .ok (.bipush 19, 2) := by decide +kernel
theorem d274_134 : decode prog_14_method_114_code 134 = .ok (.if_icmp .ne 17, 3) := by decide +kernel
theorem d274_137 : decode prog_14_method_114_code 137 = .ok (.aload_n 0, 1) := by decide +kernel
theorem d274_138 : decode prog_14_method_114_code 138 = .ok (.getfield 56, 3) := by decide +kernel
theorem d274_141 : decode prog_14_method_114_code 141 = .ok (.iload 5, 2) := by decide +kernel
theorem d274_143 : decode prog_14_method_114_code 143 = .ok (.aload_n 0, 1) := by decide +kernel
theorem d274_144 : decode prog_14_method_114_code 144 = .ok (.getfield 568, 3) := by decide +kernel
theorem d274_147 : decode prog_14_method_114_code 147 = .ok (.iastore, 1) := by decide +kernel
theorem d274_148 : decode prog_14_method_114_code 148 = .ok (.goto 19, 3) := by decide +kernel
theorem d274_151 : decode prog_14_method_114_code 151 = .ok (.iload 6, 2) := by decide +kernel
theorem d274_153 : decode prog_14_method_114_code 153 = .ok (.ifCond .eq 14, 3) := by decide +kernel
theorem d274_156 : decode prog_14_method_114_code 156 = .ok (.aload_n 0, 1) := by decide +kernel
theorem d274_157 : decode prog_14_method_114_code 157 = .ok (.getfield 53, 3) := by decide +kernel
theorem d274_160 : decode prog_14_method_114_code 160 = .ok (.iload 5, 2) := by decide +kernel
theorem d274_162 : decode prog_14_method_114_code 162 = .ok (.aload_n 0, 1) := by decide +kernel
theorem d274_163 : decode prog_14_method_114_code 163 = .ok (.getfield 568, 3) := by decide +kernel
theorem d274_166 : decode prog_14_method_114_code 166 = .ok (.iastore, 1) := by decide +kernel
theorem d274_167 : decode prog_14_method_114_code 167 = .ok (.aload_n 0, 1) := by decide +kernel
theorem d274_168 : decode prog_14_method_114_code 168 = .ok (.dup, 1) := by decide +kernel
theorem d274_169 : decode prog_14_method_114_code 169 = .ok (.getfield 568, 3) := by decide +kernel
theorem d274_172 : decode prog_14_method_114_code 172 = .ok (.iload 6, 2) := by decide +kernel
theorem d274_174 : decode prog_14_method_114_code 174 = .ok (.ifCond .eq 7, 3) := by decide +kernel
theorem d274_177 : decode prog_14_method_114_code 177 = .ok (.iconst 1, 1) := by decide +kernel
theorem d274_178 : decode prog_14_method_114_code 178 = .ok (.goto 4, 3) := by decide +kernel
theorem d274_181 : decode prog_14_method_114_code 181 = .ok (.iconst 0, 1) := by decide +kernel
theorem d274_182 : decode prog_14_method_114_code 182 = .ok (.iadd, 1) := by decide +kernel
theorem d274_183 : decode prog_14_method_114_code 183 = .ok (.putfield 568, 3) := by decide +kernel
theorem d274_186 : decode prog_14_method_114_code 186 = .ok (.aload_n 0, 1) := by decide +kernel
theorem d274_187 : decode prog_14_method_114_code 187 = .ok (.iload 5, 2) := by decide +kernel
theorem d274_189 : decode prog_14_method_114_code 189 = .ok (.iload_n 1, 1) := by decide +kernel
theorem d274_190 : decode prog_14_method_114_code 190 = .ok (.invokevirtual 632, 3) := by decide +kernel
theorem d274_193 : decode prog_14_method_114_code 193 = .ok (.istore 5, 2) := by decide +kernel
theorem d274_195 : decode prog_14_method_114_code 195 = .ok (.goto (-147), 3) := by decide +kernel
theorem d274_198 : decode prog_14_method_114_code 198 = .ok (.iinc 4 1, 3) := by decide +kernel
theorem d274_201 : decode prog_14_method_114_code 201 = .ok (.goto (-167), 3) := by decide +kernel
theorem d274_204 : decode prog_14_method_114_code 204 = .ok (.aload_n 0, 1) := by decide +kernel
theorem d274_205 : decode prog_14_method_114_code 205 = .ok (.getfield 83, 3) := by decide +kernel
theorem d274_208 : decode prog_14_method_114_code 208 = .ok (.iload_n 2, 1) := by decide +kernel
theorem d274_209 : decode prog_14_method_114_code 209 = .ok (.aload_n 0, 1) := by decide +kernel
theorem d274_210 : decode prog_14_method_114_code 210 = .ok (.getfield 568, 3) := by decide +kernel
theorem d274_213 : decode prog_14_method_114_code 213 = .ok (.iload_n 3, 1) := by decide +kernel
theorem d274_214 : decode prog_14_method_114_code 214 = .ok (.iadd, 1) := by decide +kernel
theorem d274_215 : decode prog_14_method_114_code 215 = .ok (.iastore, 1) := by decide +kernel
theorem d274_216 : decode prog_14_method_114_code 216 = .ok (.aload_n 0, 1) := by decide +kernel
theorem d274_217 : decode prog_14_method_114_code 217 = .ok (.getfield 29, 3) := by decide +kernel
theorem d274_220 : decode prog_14_method_114_code 220 = .ok (.iload_n 1, 1) := by decide +kernel
theorem d274_221 : decode prog_14_method_114_code 221 = .ok (.iaload, 1) := by decide +kernel
theorem d274_222 : decode prog_14_method_114_code 222 = .ok (.iconst 1, 1) := by decide +kernel
theorem d274_223 : decode prog_14_method_114_code 223 = .ok (.if_icmp .ne 18, 3) := by decide +kernel
theorem d274_226 : decode prog_14_method_114_code 226 = .ok (.aload_n 0, 1) := by decide +kernel
theorem d274_227 : decode prog_14_method_114_code 227 = .ok (.iload_n 2, 1) := by decide +kernel
theorem d274_228 : decode prog_14_method_114_code 228 = .ok (.invokevirtual 611, 3) := by decide +kernel
theorem d274_231 : decode prog_14_method_114_code 231 = .ok (.bipush 8, 2) := by decide +kernel
theorem d274_233 : decode prog_14_method_114_code 233 = .ok (.if_icmp .le 8, 3) := by decide +kernel
theorem d274_236 : decode prog_14_method_114_code 236 = .ok (.bipush 44, 2) := by decide +kernel
theorem d274_238 : decode prog_14_method_114_code 238 = .ok (.goto 4, 3) := by decide +kernel
theorem d274_241 : decode prog_14_method_114_code 241 = .ok (.iconst 0, 1) := by decide +kernel
theorem d274_242 : decode prog_14_method_114_code 242 = .ok (.ireturn, 1) := by decide +kernel
theorem m274 : pm_m 274 = some (⟨"TypeRulesModel", "leaveBlock", "(I)I"⟩, prog_14_method_114_code, 7, (some FieldType.int), 10, 1, 11) := rfl
/-! A BLOCK ends in the reference -/
/-- how many of the n from s on -/
def cn (p : Nat → Bool) (s : Nat) : Nat → Nat
  | 0 => 0
  | n + 1 => cn p s n + (if p (s + n) = true then 1 else 0)
def sp_0 (l : List pg_N) (j : Nat) : Bool := decide (rl_k l j = 16 ∨ rl_k l j = 19)
def sp_1 (l : List pg_N) (j : Nat) : Bool := decide (rl_k l j = 25 ∧ 2 ≤ (rl_v l j).toInt)
/-- a cell of the unfinished block is set -/
theorem rr_sc57 {l : List pg_N} {a : Nat → Nat} {R : Int32 → Int32 → Prop} {σ0 σ : pm_S} {u : Nat} {A : rl_A} (h : rr_I l a R σ0 σ true u A) {j : Nat} (hj : j < l.length) (hi : rr_in l A.1 j) (hs : rr_sc l j) (x : Int32) : rr_I l a R σ0 (pm_pr σ 57 (upd (σ.2.2 57) (a j) x)) true u A := by
  have inj := (rr_T h).2.1
  refine rr_Ds h (by decide) rfl (fun c hc => ?_)
  obtain ⟨d1, d2, d3⟩ := h.2.2.2.1 c hc
  refine ⟨by rw [pm_rne (by decide)]; exact d1, fun z => ?_, fun z => by rw [pm_rne (by decide)]; exact d3 z⟩
  rw [pm_req, upd_if]
  by_cases q : c = j
  · rw [q] at z
    exact absurd ⟨rfl, hi, hs⟩ z
  · rw [if_neg (fun w => q (inj c j hc hj w))]; exact d2 z
theorem rr_sc58 {l : List pg_N} {a : Nat → Nat} {R : Int32 → Int32 → Prop} {σ0 σ : pm_S} {u : Nat} {A : rl_A} (h : rr_I l a R σ0 σ true u A) {j : Nat} (hj : j < l.length) (hi : rr_in l A.1 j) (hs : rl_k l j = 19) (x : Int32) : rr_I l a R σ0 (pm_pr σ 58 (upd (σ.2.2 58) (a j) x)) true u A := by
  have inj := (rr_T h).2.1
  refine rr_Ds h (by decide) rfl (fun c hc => ?_)
  obtain ⟨d1, d2, d3⟩ := h.2.2.2.1 c hc
  refine ⟨by rw [pm_rne (by decide)]; exact d1, fun z => by rw [pm_rne (by decide)]; exact d2 z, fun z => ?_⟩
  rw [pm_req, upd_if]
  by_cases q : c = j
  · rw [q] at z
    exact absurd ⟨rfl, hi, hs⟩ z
  · rw [if_neg (fun w => q (inj c j hc hj w))]; exact d3 z
/-- what the first round has set before j, the second -/
def rz_0 (l : List pg_N) (a : Nat → Nat) (A : rl_A) (i j : Nat) (σ : pm_S) : Prop := ∀ c, i < c → c < j → (rl_k l c = 16 → σ.2.2 57 (a c) = A.2.2.1 c) ∧ (rl_k l c = 19 → σ.2.2 58 (a c) = A.2.2.2 c)
def rz_1 (l : List pg_N) (a : Nat → Nat) (A : rl_A) (i j : Nat) (σ : pm_S) : Prop := ∀ c, i < c → c < j → rl_k l c = 25 → 2 ≤ (rl_v l c).toInt → σ.2.2 57 (a c) = A.2.2.1 c
/-- the block is finished -/
theorem rr_fin {l : List pg_N} {a : Nat → Nat} {R : Int32 → Int32 → Prop} {σ0 σ : pm_S} {u u' i : Nat} {y : rl_B} {r : List rl_B} {T : (Nat → Int32) × (Nat → Int32) × (Nat → Int32)} (h : rr_I l a R σ0 σ true u (y :: r, T)) (hy : y.2.2.1 = i) (hk : 1 ≤ rl_k l i ∧ rl_k l i ≤ 3) (h0 : rz_0 l a (y :: r, T) i (i + rl_z l i) σ) (h1 : rz_1 l a (y :: r, T) i (i + rl_z l i) σ) : rr_I l a R σ0 (pm_pr σ 67 (upd (σ.2.2 67) r.length (nI y.2.2.2.1))) false u' (y :: r, T) := by
  obtain ⟨g0, g1, g2, hD, hb, hv, h6⟩ := h
  refine ⟨g0, g1, rr_pr g2 (by decide), fun c hc => ?_, ?_, rv_x hv (fun q _ _ => pm_rne (by omega)) rfl, fun z => by cases z⟩
  · obtain ⟨d1, d2, d3⟩ := hD c hc
    rw [pm_rne (by decide), pm_rne (by decide), pm_rne (by decide)]
    refine ⟨d1, fun _ => ?_, fun _ => ?_⟩
    · by_cases q : true = true ∧ rr_in l (y :: r) c ∧ rr_sc l c
      · obtain ⟨_, ⟨q1, q2⟩, q3⟩ := q
        have q1 : y.2.2.1 ≤ c := q1
        have q2 : c < y.2.2.1 + rl_z l y.2.2.1 := q2
        rw [hy] at q1 q2
        have ne : c ≠ i := fun z => by
          rw [z] at q3
          rcases q3 with w | w <;> omega
        rcases q3 with w | w
        · exact (h0 c (by omega) q2).1 w
        · exact h1 c (by omega) q2 w.1 w.2
      · exact d2 q
    · by_cases q : true = true ∧ rr_in l (y :: r) c ∧ rl_k l c = 19
      · obtain ⟨_, ⟨q1, q2⟩, q3⟩ := q
        have q1 : y.2.2.1 ≤ c := q1
        have q2 : c < y.2.2.1 + rl_z l y.2.2.1 := q2
        rw [hy] at q1 q2
        have ne : c ≠ i := fun z => by
          rw [z] at q3; omega
        exact (h0 c (by omega) q2).2 q3
      · exact d3 q
  · obtain ⟨b1, b2, b3⟩ := hb
    refine ⟨b1, b2, fun b x hx => ?_⟩
    obtain ⟨e1, e2, e3, e4, e5, e6, e7⟩ := b3 b x hx
    refine ⟨e1, e2, e3, ?_⟩
    unfold rb_at
    rw [pm_rne (by decide), pm_rne (by decide), pm_rne (by decide), pm_req, upd_if]
    refine ⟨e4, e5, e6, fun _ => ?_⟩
    have hx : rl_blk (y :: r) b = some x := hx
    rw [rl_blkc] at hx
    by_cases q : b = r.length
    · rw [if_pos q] at hx
      cases hx
      rw [if_pos q]
    · rw [if_neg q] at hx ⊢
      have := rl_blkl hx
      exact e7 (Or.inr (by show b + 1 < r.length + 1; omega))
theorem re274r0 {d : Nat} {l : List pg_N} {a : Nat → Nat} {R : Int32 → Int32 → Prop} {σ0 : pm_S} {A : rl_A} {Q : Option Value → pm_S → Prop} {NN u i : Nat} {b k : Int32} (hG : lg_G l NN) (i0 : i < l.length) (hin : ∀ c, i < c → c < i + rl_z l i → rr_in l A.1 c) (hc : ∀ c, i < c → c < i + rl_z l i → (rl_k l c = 16 → A.2.2.1 c = nI (u + cn (sp_0 l) (i + 1) (c - i - 1))) ∧ (rl_k l c = 19 → A.2.2.2 c = nI (u + cn (sp_0 l) (i + 1) (c - i - 1)))) (hg : ∀ σ' w6, rr_I l a R σ0 σ' true (u + cn (sp_0 l) (i + 1) (rl_z l i - 1)) A → rz_0 l a A i (i + rl_z l i) σ' → pm_WP pm_Y0 (pm_call pm_Y0 (d + 1)) 10 prog_14_method_114_code (some FieldType.int) Q 34 [.ref 10, .int (nI (a i)), .int b, .int k, .int (nI 1), .int (-1), w6] [] σ') : ∀ (n j : Nat) (σ : pm_S) (w6 : Value), j + n = i + rl_z l i → i < j → rr_I l a R σ0 σ true (u + cn (sp_0 l) (i + 1) (j - i - 1)) A → rz_0 l a A i j σ → pm_WP pm_Y0 (pm_call pm_Y0 (d + 1)) 10 prog_14_method_114_code (some FieldType.int) Q 48 [.ref 10, .int (nI (a i)), .int b, .int k, .int (nI 0), .int (if j < i + rl_z l i then nI (a j) else -1), w6] [] σ := by
  have zi := rl_zc hG.1 i0
  intro n
  induction n with
  | zero =>
    intro j σ w6 hj ij h g0
    obtain rfl : j = i + rl_z l i := by omega
    rw [if_neg (Nat.lt_irrefl _)]
    rw [show i + rl_z l i - i - 1 = rl_z l i - 1 by omega] at h
    refine wq_l 50 d274_48 rfl rfl rfl rfl ?_
    refine wq_b 198 53 d274_50 rfl (by decide) rfl (fun c50 => ?_) (fun c50 => absurd (by decide) c50)
    refine wq_i 201 d274_198 rfl rfl rfl ?_
    refine wq_g 34 d274_201 (by decide) ?_
    exact hg σ w6 h g0
  | succ n ih =>
    intro j σ w6 hj ij h g0
    have jl : j < l.length := by omega
    have jz : j < i + rl_z l i := by omega
    rw [if_pos jz]
    have bj := rt_b (rr_T h) jl
    have bjc := rt_c (rr_T h) jl
    have kj := rt_k (rr_T h) jl
    have kl := (lg_V hG jl).1
    have e48 := h.2.2.2.2.2.2 rfl
    have ej := nI_toInt (n := a j) (by have := ((rr_T h).2.2.1 j jl).1; omega)
    have inj := (rr_T h).2.1
    have cs : cn (sp_0 l) (i + 1) (j + 1 - i - 1) = cn (sp_0 l) (i + 1) (j - i - 1) + (if sp_0 l j = true then 1 else 0) := by
      rw [show j + 1 - i - 1 = (j - i - 1) + 1 by omega]
      show cn (sp_0 l) (i + 1) (j - i - 1) + (if sp_0 l (i + 1 + (j - i - 1)) = true then 1 else 0) = _
      rw [show i + 1 + (j - i - 1) = j by omega]
    have ih := ih (j + 1)
    rw [cs] at ih
    have hcj := hc j ij jz
    generalize cn (sp_0 l) (i + 1) (j - i - 1) = N at *
    by_cases k16 : rl_k l j = 16
    · skip
      refine wq_l 50 d274_48 rfl rfl rfl rfl ?_
      refine wq_b 198 53 d274_50 rfl (by decide) rfl (fun c50 => absurd c50 (by rw [i_lt, ej]; show ¬ _ < (0 : Int); omega)) (fun c50 => ?_)
      refine wq_l 55 d274_53 rfl rfl rfl rfl ?_
      refine wq_b 90 58 d274_55 rfl (by decide) rfl (fun c55 => absurd c55 (fun z => z rfl)) (fun c55 => ?_)
      refine wq_l 59 d274_58 rfl rfl rfl rfl ?_
      refine wq_gr (ci := 10) (j := 16) (q := 49) 62 d274_59 rfl rfl rfl rfl ?_
      refine wq_l 64 d274_62 rfl rfl rfl rfl ?_
      refine wq_al 65 d274_64 rfl rfl rfl (bj) ?_
      rw [kj]
      refine wq_k 67 16 d274_65 (by decide) rfl ?_
      refine wq_b 82 70 d274_67 rfl (by decide) rfl (fun c67 => ?_) (fun c67 => absurd (by rw [k16]; rfl) c67)
      refine wq_k 83 1 d274_82 (by decide) rfl ?_
      refine wq_g 118 d274_83 (by decide) ?_
      refine wq_s 120 d274_118 rfl rfl (Nat.le_of_ble_eq_true rfl) rfl rfl ?_
      refine wq_l 122 d274_120 rfl rfl rfl rfl ?_
      refine wq_b 151 125 d274_122 rfl (by decide) rfl (fun c122 => absurd c122 (by decide)) (fun c122 => ?_)
      refine wq_l 126 d274_125 rfl rfl rfl rfl ?_
      refine wq_gr (ci := 10) (j := 16) (q := 49) 129 d274_126 rfl rfl rfl rfl ?_
      refine wq_l 131 d274_129 rfl rfl rfl rfl ?_
      refine wq_al 132 d274_131 rfl rfl rfl (bj) ?_
      rw [kj]
      refine wq_k 134 19 d274_132 (by decide) rfl ?_
      refine wq_b 151 137 d274_134 rfl (by decide) rfl (fun c134 => ?_) (fun c134 => absurd (fun z => by have z := hp_inj (b := 19) (by omega) (by decide) z; omega) c134)
      refine wq_l 153 d274_151 rfl rfl rfl rfl ?_
      refine wq_b 167 156 d274_153 rfl (by decide) rfl (fun c153 => absurd c153 (by decide)) (fun c153 => ?_)
      refine wq_l 157 d274_156 rfl rfl rfl rfl ?_
      refine wq_gr (ci := 10) (j := 24) (q := 57) 160 d274_157 rfl rfl rfl rfl ?_
      refine wq_l 162 d274_160 rfl rfl rfl rfl ?_
      refine wq_l 163 d274_162 rfl rfl rfl rfl ?_
      refine wq_gf (ci := 10) (j := 48) (f := 0) (v := .int (nI (u + N))) 166 d274_163 rfl rfl rfl (congrArg Value.int (e48)) rfl ?_
      refine wq_as 167 d274_166 rfl rfl rfl (bj) ?_
      refine wq_l 168 d274_167 rfl rfl rfl rfl ?_
      refine wq_a 169 d274_168 rfl rfl ?_
      refine wq_gf (ci := 10) (j := 48) (f := 0) (v := .int (nI (u + N))) 172 d274_169 rfl rfl rfl (congrArg Value.int (e48)) rfl ?_
      refine wq_l 174 d274_172 rfl rfl rfl rfl ?_
      refine wq_b 181 177 d274_174 rfl (by decide) rfl (fun c174 => absurd c174 (by decide)) (fun c174 => ?_)
      refine wq_k 178 1 d274_177 (by decide) rfl ?_
      refine wq_g 182 d274_178 (by decide) ?_
      refine wq_a 183 d274_182 rfl rfl ?_
      refine wq_pf (ci := 10) (j := 48) 186 d274_183 rfl rfl rfl ⟨rfl, rfl⟩ rfl ?_
      refine wq_l 187 d274_186 rfl rfl rfl rfl ?_
      refine wq_l 189 d274_187 rfl rfl rfl rfl ?_
      refine wq_l 190 d274_189 rfl rfl rfl rfl ?_
      rw [bjc, pm_nr0]
      rw [show nI (u + N) + 1 = nI (u + N + 1) from nI_1 _]
      rw [if_pos (by exact decide_eq_true (Or.inl k16))] at ih
      have h2 := rr_u (rr_sc57 h jl (hin j ij jz) (Or.inl k16) (nI (u + N))) (u + N + 1)
      generalize ht : pm_pi (pm_pr σ 57 (upd (σ.2.2 57) (a j) (nI (u + N)))) 10 48 (nI (u + N + 1)) = τ at *
      have e57 : τ.2.2 57 = upd (σ.2.2 57) (a j) (nI (u + N)) := by rw [← ht]; rfl
      have e58 : τ.2.2 58 = σ.2.2 58 := by rw [← ht]; rfl
      refine wq_v 193 [_, _] d274_190 rfl rfl m275 rfl rfl (Nat.le_of_ble_eq_true rfl) rfl (re275 (rr_T h2) hG i0 (by omega) jz ?_)
      refine wq_s 195 d274_193 rfl rfl (Nat.le_of_ble_eq_true rfl) rfl rfl ?_
      refine wq_g 48 d274_195 (by decide) ?_
      refine ih τ _ (by omega) (by omega) h2 (fun c c1 c2 => ?_)
      rw [e57, e58]
      by_cases q : c = j
      · rw [q]
        refine ⟨fun w => ?_, fun w => ?_⟩
        · rw [upd_if, if_pos rfl]; exact (hcj.1 w).symm
        · omega
      · have g := g0 c c1 (by omega)
        rw [upd_if, if_neg (fun w => q (inj c j (by omega) jl w))]
        exact g
    · by_cases k19 : rl_k l j = 19
      · skip
        refine wq_l 50 d274_48 rfl rfl rfl rfl ?_
        refine wq_b 198 53 d274_50 rfl (by decide) rfl (fun c50 => absurd c50 (by rw [i_lt, ej]; show ¬ _ < (0 : Int); omega)) (fun c50 => ?_)
        refine wq_l 55 d274_53 rfl rfl rfl rfl ?_
        refine wq_b 90 58 d274_55 rfl (by decide) rfl (fun c55 => absurd c55 (fun z => z rfl)) (fun c55 => ?_)
        refine wq_l 59 d274_58 rfl rfl rfl rfl ?_
        refine wq_gr (ci := 10) (j := 16) (q := 49) 62 d274_59 rfl rfl rfl rfl ?_
        refine wq_l 64 d274_62 rfl rfl rfl rfl ?_
        refine wq_al 65 d274_64 rfl rfl rfl (bj) ?_
        rw [kj]
        refine wq_k 67 16 d274_65 (by decide) rfl ?_
        refine wq_b 82 70 d274_67 rfl (by decide) rfl (fun c67 => absurd c67 (fun z => by have z := hp_inj (b := 16) (by omega) (by decide) z; omega)) (fun c67 => ?_)
        refine wq_l 71 d274_70 rfl rfl rfl rfl ?_
        refine wq_gr (ci := 10) (j := 16) (q := 49) 74 d274_71 rfl rfl rfl rfl ?_
        refine wq_l 76 d274_74 rfl rfl rfl rfl ?_
        refine wq_al 77 d274_76 rfl rfl rfl (bj) ?_
        rw [kj]
        refine wq_k 79 19 d274_77 (by decide) rfl ?_
        refine wq_b 86 82 d274_79 rfl (by decide) rfl (fun c79 => absurd c79 (fun z => z (by rw [k19]; rfl))) (fun c79 => ?_)
        refine wq_k 83 1 d274_82 (by decide) rfl ?_
        refine wq_g 118 d274_83 (by decide) ?_
        refine wq_s 120 d274_118 rfl rfl (Nat.le_of_ble_eq_true rfl) rfl rfl ?_
        refine wq_l 122 d274_120 rfl rfl rfl rfl ?_
        refine wq_b 151 125 d274_122 rfl (by decide) rfl (fun c122 => absurd c122 (by decide)) (fun c122 => ?_)
        refine wq_l 126 d274_125 rfl rfl rfl rfl ?_
        refine wq_gr (ci := 10) (j := 16) (q := 49) 129 d274_126 rfl rfl rfl rfl ?_
        refine wq_l 131 d274_129 rfl rfl rfl rfl ?_
        refine wq_al 132 d274_131 rfl rfl rfl (bj) ?_
        rw [kj]
        refine wq_k 134 19 d274_132 (by decide) rfl ?_
        refine wq_b 151 137 d274_134 rfl (by decide) rfl (fun c134 => absurd c134 (fun z => z (by rw [k19]; rfl))) (fun c134 => ?_)
        refine wq_l 138 d274_137 rfl rfl rfl rfl ?_
        refine wq_gr (ci := 10) (j := 25) (q := 58) 141 d274_138 rfl rfl rfl rfl ?_
        refine wq_l 143 d274_141 rfl rfl rfl rfl ?_
        refine wq_l 144 d274_143 rfl rfl rfl rfl ?_
        refine wq_gf (ci := 10) (j := 48) (f := 0) (v := .int (nI (u + N))) 147 d274_144 rfl rfl rfl (congrArg Value.int (e48)) rfl ?_
        refine wq_as 148 d274_147 rfl rfl rfl (bj) ?_
        refine wq_g 167 d274_148 (by decide) ?_
        refine wq_l 168 d274_167 rfl rfl rfl rfl ?_
        refine wq_a 169 d274_168 rfl rfl ?_
        refine wq_gf (ci := 10) (j := 48) (f := 0) (v := .int (nI (u + N))) 172 d274_169 rfl rfl rfl (congrArg Value.int (e48)) rfl ?_
        refine wq_l 174 d274_172 rfl rfl rfl rfl ?_
        refine wq_b 181 177 d274_174 rfl (by decide) rfl (fun c174 => absurd c174 (by decide)) (fun c174 => ?_)
        refine wq_k 178 1 d274_177 (by decide) rfl ?_
        refine wq_g 182 d274_178 (by decide) ?_
        refine wq_a 183 d274_182 rfl rfl ?_
        refine wq_pf (ci := 10) (j := 48) 186 d274_183 rfl rfl rfl ⟨rfl, rfl⟩ rfl ?_
        refine wq_l 187 d274_186 rfl rfl rfl rfl ?_
        refine wq_l 189 d274_187 rfl rfl rfl rfl ?_
        refine wq_l 190 d274_189 rfl rfl rfl rfl ?_
        rw [bjc, pm_nr0]
        rw [show nI (u + N) + 1 = nI (u + N + 1) from nI_1 _]
        rw [if_pos (by exact decide_eq_true (Or.inr k19))] at ih
        have h2 := rr_u (rr_sc58 h jl (hin j ij jz) (k19) (nI (u + N))) (u + N + 1)
        generalize ht : pm_pi (pm_pr σ 58 (upd (σ.2.2 58) (a j) (nI (u + N)))) 10 48 (nI (u + N + 1)) = τ at *
        have e58 : τ.2.2 58 = upd (σ.2.2 58) (a j) (nI (u + N)) := by rw [← ht]; rfl
        have e57 : τ.2.2 57 = σ.2.2 57 := by rw [← ht]; rfl
        refine wq_v 193 [_, _] d274_190 rfl rfl m275 rfl rfl (Nat.le_of_ble_eq_true rfl) rfl (re275 (rr_T h2) hG i0 (by omega) jz ?_)
        refine wq_s 195 d274_193 rfl rfl (Nat.le_of_ble_eq_true rfl) rfl rfl ?_
        refine wq_g 48 d274_195 (by decide) ?_
        refine ih τ _ (by omega) (by omega) h2 (fun c c1 c2 => ?_)
        rw [e57, e58]
        by_cases q : c = j
        · rw [q]
          refine ⟨fun w => ?_, fun w => ?_⟩
          · omega
          · rw [upd_if, if_pos rfl]; exact (hcj.2 w).symm
        · have g := g0 c c1 (by omega)
          rw [upd_if, if_neg (fun w => q (inj c j (by omega) jl w))]
          exact g
      · skip
        refine wq_l 50 d274_48 rfl rfl rfl rfl ?_
        refine wq_b 198 53 d274_50 rfl (by decide) rfl (fun c50 => absurd c50 (by rw [i_lt, ej]; show ¬ _ < (0 : Int); omega)) (fun c50 => ?_)
        refine wq_l 55 d274_53 rfl rfl rfl rfl ?_
        refine wq_b 90 58 d274_55 rfl (by decide) rfl (fun c55 => absurd c55 (fun z => z rfl)) (fun c55 => ?_)
        refine wq_l 59 d274_58 rfl rfl rfl rfl ?_
        refine wq_gr (ci := 10) (j := 16) (q := 49) 62 d274_59 rfl rfl rfl rfl ?_
        refine wq_l 64 d274_62 rfl rfl rfl rfl ?_
        refine wq_al 65 d274_64 rfl rfl rfl (bj) ?_
        rw [kj]
        refine wq_k 67 16 d274_65 (by decide) rfl ?_
        refine wq_b 82 70 d274_67 rfl (by decide) rfl (fun c67 => absurd c67 (fun z => by have z := hp_inj (b := 16) (by omega) (by decide) z; omega)) (fun c67 => ?_)
        refine wq_l 71 d274_70 rfl rfl rfl rfl ?_
        refine wq_gr (ci := 10) (j := 16) (q := 49) 74 d274_71 rfl rfl rfl rfl ?_
        refine wq_l 76 d274_74 rfl rfl rfl rfl ?_
        refine wq_al 77 d274_76 rfl rfl rfl (bj) ?_
        rw [kj]
        refine wq_k 79 19 d274_77 (by decide) rfl ?_
        refine wq_b 86 82 d274_79 rfl (by decide) rfl (fun c79 => ?_) (fun c79 => absurd (fun z => by have z := hp_inj (b := 19) (by omega) (by decide) z; omega) c79)
        refine wq_k 87 0 d274_86 (by decide) rfl ?_
        refine wq_g 118 d274_87 (by decide) ?_
        refine wq_s 120 d274_118 rfl rfl (Nat.le_of_ble_eq_true rfl) rfl rfl ?_
        refine wq_l 122 d274_120 rfl rfl rfl rfl ?_
        refine wq_b 151 125 d274_122 rfl (by decide) rfl (fun c122 => ?_) (fun c122 => absurd (by decide) c122)
        refine wq_l 153 d274_151 rfl rfl rfl rfl ?_
        refine wq_b 167 156 d274_153 rfl (by decide) rfl (fun c153 => ?_) (fun c153 => absurd (by decide) c153)
        refine wq_l 168 d274_167 rfl rfl rfl rfl ?_
        refine wq_a 169 d274_168 rfl rfl ?_
        refine wq_gf (ci := 10) (j := 48) (f := 0) (v := .int (nI (u + N))) 172 d274_169 rfl rfl rfl (congrArg Value.int (e48)) rfl ?_
        refine wq_l 174 d274_172 rfl rfl rfl rfl ?_
        refine wq_b 181 177 d274_174 rfl (by decide) rfl (fun c174 => ?_) (fun c174 => absurd (by decide) c174)
        refine wq_k 182 0 d274_181 (by decide) rfl ?_
        refine wq_a 183 d274_182 rfl rfl ?_
        refine wq_pf (ci := 10) (j := 48) 186 d274_183 rfl rfl rfl ⟨rfl, rfl⟩ rfl ?_
        refine wq_l 187 d274_186 rfl rfl rfl rfl ?_
        refine wq_l 189 d274_187 rfl rfl rfl rfl ?_
        refine wq_l 190 d274_189 rfl rfl rfl rfl ?_
        rw [show nI (u + N) + 0 = nI (u + N) from Int32.add_zero _]
        rw [if_neg (by exact fun z => by have z := of_decide_eq_true z; omega)] at ih
        have h2 := rr_u h (u + N)
        generalize ht : pm_pi σ 10 48 (nI (u + N)) = τ at *
        have e57 : τ.2.2 57 = σ.2.2 57 := by rw [← ht]; rfl
        have e58 : τ.2.2 58 = σ.2.2 58 := by rw [← ht]; rfl
        refine wq_v 193 [_, _] d274_190 rfl rfl m275 rfl rfl (Nat.le_of_ble_eq_true rfl) rfl (re275 (rr_T h2) hG i0 (by omega) jz ?_)
        refine wq_s 195 d274_193 rfl rfl (Nat.le_of_ble_eq_true rfl) rfl rfl ?_
        refine wq_g 48 d274_195 (by decide) ?_
        refine ih τ _ (by omega) (by omega) h2 (fun c c1 c2 => ?_)
        rw [e57, e58]
        by_cases q : c = j
        · rw [q]
          refine ⟨fun w => ?_, fun w => ?_⟩
          · omega
          · omega
        · have g := g0 c c1 (by omega)
          exact g
theorem re274r1 {d : Nat} {l : List pg_N} {a : Nat → Nat} {R : Int32 → Int32 → Prop} {σ0 : pm_S} {A : rl_A} {Q : Option Value → pm_S → Prop} {NN u i : Nat} {b k : Int32} (hG : lg_G l NN) (i0 : i < l.length) (hin : ∀ c, i < c → c < i + rl_z l i → rr_in l A.1 c) (hc : ∀ c, i < c → c < i + rl_z l i → rl_k l c = 25 → 2 ≤ (rl_v l c).toInt → A.2.2.1 c = nI (u + cn (sp_1 l) (i + 1) (c - i - 1))) (hg : ∀ σ' w6, rr_I l a R σ0 σ' true (u + cn (sp_1 l) (i + 1) (rl_z l i - 1)) A → rz_0 l a A i (i + rl_z l i) σ' → rz_1 l a A i (i + rl_z l i) σ' → pm_WP pm_Y0 (pm_call pm_Y0 (d + 1)) 10 prog_14_method_114_code (some FieldType.int) Q 34 [.ref 10, .int (nI (a i)), .int b, .int k, .int (nI 2), .int (-1), w6] [] σ') : ∀ (n j : Nat) (σ : pm_S) (w6 : Value), j + n = i + rl_z l i → i < j → rr_I l a R σ0 σ true (u + cn (sp_1 l) (i + 1) (j - i - 1)) A → rz_0 l a A i (i + rl_z l i) σ → rz_1 l a A i j σ → pm_WP pm_Y0 (pm_call pm_Y0 (d + 1)) 10 prog_14_method_114_code (some FieldType.int) Q 48 [.ref 10, .int (nI (a i)), .int b, .int k, .int (nI 1), .int (if j < i + rl_z l i then nI (a j) else -1), w6] [] σ := by
  have zi := rl_zc hG.1 i0
  intro n
  induction n with
  | zero =>
    intro j σ w6 hj ij h g0 g1
    obtain rfl : j = i + rl_z l i := by omega
    rw [if_neg (Nat.lt_irrefl _)]
    rw [show i + rl_z l i - i - 1 = rl_z l i - 1 by omega] at h
    refine wq_l 50 d274_48 rfl rfl rfl rfl ?_
    refine wq_b 198 53 d274_50 rfl (by decide) rfl (fun c50 => ?_) (fun c50 => absurd (by decide) c50)
    refine wq_i 201 d274_198 rfl rfl rfl ?_
    refine wq_g 34 d274_201 (by decide) ?_
    exact hg σ w6 h g0 g1
  | succ n ih =>
    intro j σ w6 hj ij h g0 g1
    have jl : j < l.length := by omega
    have jz : j < i + rl_z l i := by omega
    rw [if_pos jz]
    have bj := rt_b (rr_T h) jl
    have bjc := rt_c (rr_T h) jl
    have kj := rt_k (rr_T h) jl
    have kl := (lg_V hG jl).1
    have e48 := h.2.2.2.2.2.2 rfl
    have ej := nI_toInt (n := a j) (by have := ((rr_T h).2.2.1 j jl).1; omega)
    have inj := (rr_T h).2.1
    have cs : cn (sp_1 l) (i + 1) (j + 1 - i - 1) = cn (sp_1 l) (i + 1) (j - i - 1) + (if sp_1 l j = true then 1 else 0) := by
      rw [show j + 1 - i - 1 = (j - i - 1) + 1 by omega]
      show cn (sp_1 l) (i + 1) (j - i - 1) + (if sp_1 l (i + 1 + (j - i - 1)) = true then 1 else 0) = _
      rw [show i + 1 + (j - i - 1) = j by omega]
    have ih := ih (j + 1)
    rw [cs] at ih
    have hcj := hc j ij jz
    generalize cn (sp_1 l) (i + 1) (j - i - 1) = N at *
    by_cases k25 : rl_k l j = 25
    · have vj := rt_v (rr_T h) jl (by rw [k25]; rfl)
      obtain ⟨gv, gl, ge⟩ := (lg_V hG jl).2.2.2.2.2.1 (Or.inl k25)
      by_cases v25 : 2 ≤ (rl_v l j).toInt
      · skip
        refine wq_l 50 d274_48 rfl rfl rfl rfl ?_
        refine wq_b 198 53 d274_50 rfl (by decide) rfl (fun c50 => absurd c50 (by rw [i_lt, ej]; show ¬ _ < (0 : Int); omega)) (fun c50 => ?_)
        refine wq_l 55 d274_53 rfl rfl rfl rfl ?_
        refine wq_b 90 58 d274_55 rfl (by decide) rfl (fun c55 => ?_) (fun c55 => absurd (by decide) c55)
        refine wq_l 91 d274_90 rfl rfl rfl rfl ?_
        refine wq_gr (ci := 10) (j := 16) (q := 49) 94 d274_91 rfl rfl rfl rfl ?_
        refine wq_l 96 d274_94 rfl rfl rfl rfl ?_
        refine wq_al 97 d274_96 rfl rfl rfl (bj) ?_
        rw [kj]
        refine wq_k 99 25 d274_97 (by decide) rfl ?_
        refine wq_b 117 102 d274_99 rfl (by decide) rfl (fun c99 => absurd c99 (fun z => z (by rw [k25]; rfl))) (fun c99 => ?_)
        refine wq_l 103 d274_102 rfl rfl rfl rfl ?_
        refine wq_gr (ci := 10) (j := 18) (q := 51) 106 d274_103 rfl rfl rfl rfl ?_
        refine wq_l 108 d274_106 rfl rfl rfl rfl ?_
        refine wq_al 109 d274_108 rfl rfl rfl (bj) ?_
        rw [vj]
        refine wq_k 110 2 d274_109 (by decide) rfl ?_
        refine wq_b 117 113 d274_110 rfl (by decide) rfl (fun c110 => absurd c110 (by rw [i_lt]; show ¬ _ < (2 : Int); omega)) (fun c110 => ?_)
        refine wq_k 114 1 d274_113 (by decide) rfl ?_
        refine wq_g 118 d274_114 (by decide) ?_
        refine wq_s 120 d274_118 rfl rfl (Nat.le_of_ble_eq_true rfl) rfl rfl ?_
        refine wq_l 122 d274_120 rfl rfl rfl rfl ?_
        refine wq_b 151 125 d274_122 rfl (by decide) rfl (fun c122 => absurd c122 (by decide)) (fun c122 => ?_)
        refine wq_l 126 d274_125 rfl rfl rfl rfl ?_
        refine wq_gr (ci := 10) (j := 16) (q := 49) 129 d274_126 rfl rfl rfl rfl ?_
        refine wq_l 131 d274_129 rfl rfl rfl rfl ?_
        refine wq_al 132 d274_131 rfl rfl rfl (bj) ?_
        rw [kj]
        refine wq_k 134 19 d274_132 (by decide) rfl ?_
        refine wq_b 151 137 d274_134 rfl (by decide) rfl (fun c134 => ?_) (fun c134 => absurd (fun z => by have z := hp_inj (b := 19) (by omega) (by decide) z; omega) c134)
        refine wq_l 153 d274_151 rfl rfl rfl rfl ?_
        refine wq_b 167 156 d274_153 rfl (by decide) rfl (fun c153 => absurd c153 (by decide)) (fun c153 => ?_)
        refine wq_l 157 d274_156 rfl rfl rfl rfl ?_
        refine wq_gr (ci := 10) (j := 24) (q := 57) 160 d274_157 rfl rfl rfl rfl ?_
        refine wq_l 162 d274_160 rfl rfl rfl rfl ?_
        refine wq_l 163 d274_162 rfl rfl rfl rfl ?_
        refine wq_gf (ci := 10) (j := 48) (f := 0) (v := .int (nI (u + N))) 166 d274_163 rfl rfl rfl (congrArg Value.int (e48)) rfl ?_
        refine wq_as 167 d274_166 rfl rfl rfl (bj) ?_
        refine wq_l 168 d274_167 rfl rfl rfl rfl ?_
        refine wq_a 169 d274_168 rfl rfl ?_
        refine wq_gf (ci := 10) (j := 48) (f := 0) (v := .int (nI (u + N))) 172 d274_169 rfl rfl rfl (congrArg Value.int (e48)) rfl ?_
        refine wq_l 174 d274_172 rfl rfl rfl rfl ?_
        refine wq_b 181 177 d274_174 rfl (by decide) rfl (fun c174 => absurd c174 (by decide)) (fun c174 => ?_)
        refine wq_k 178 1 d274_177 (by decide) rfl ?_
        refine wq_g 182 d274_178 (by decide) ?_
        refine wq_a 183 d274_182 rfl rfl ?_
        refine wq_pf (ci := 10) (j := 48) 186 d274_183 rfl rfl rfl ⟨rfl, rfl⟩ rfl ?_
        refine wq_l 187 d274_186 rfl rfl rfl rfl ?_
        refine wq_l 189 d274_187 rfl rfl rfl rfl ?_
        refine wq_l 190 d274_189 rfl rfl rfl rfl ?_
        rw [bjc, pm_nr0]
        rw [show nI (u + N) + 1 = nI (u + N + 1) from nI_1 _]
        rw [if_pos (by exact decide_eq_true ⟨k25, v25⟩)] at ih
        have h2 := rr_u (rr_sc57 h jl (hin j ij jz) (Or.inr ⟨k25, v25⟩) (nI (u + N))) (u + N + 1)
        generalize ht : pm_pi (pm_pr σ 57 (upd (σ.2.2 57) (a j) (nI (u + N)))) 10 48 (nI (u + N + 1)) = τ at *
        have e57 : τ.2.2 57 = upd (σ.2.2 57) (a j) (nI (u + N)) := by rw [← ht]; rfl
        have e58 : τ.2.2 58 = σ.2.2 58 := by rw [← ht]; rfl
        refine wq_v 193 [_, _] d274_190 rfl rfl m275 rfl rfl (Nat.le_of_ble_eq_true rfl) rfl (re275 (rr_T h2) hG i0 (by omega) jz ?_)
        refine wq_s 195 d274_193 rfl rfl (Nat.le_of_ble_eq_true rfl) rfl rfl ?_
        refine wq_g 48 d274_195 (by decide) ?_
        refine ih τ _ (by omega) (by omega) h2 (fun c c1 c2 => ?_) (fun c c1 c2 c3 c4 => ?_)
        · rw [e57, e58]
          have g := g0 c c1 c2
          refine ⟨fun w => ?_, g.2⟩
          rw [upd_if, if_neg (fun z => by have z := inj c j (by omega) jl z; rw [z] at w; omega)]
          exact g.1 w
        · rw [e57, upd_if]
          by_cases q : c = j
          · rw [if_pos (by rw [q]), q]; exact (hcj k25 v25).symm
          · rw [if_neg (fun w => q (inj c j (by omega) jl w))]; exact g1 c c1 (by omega) c3 c4
      · skip
        refine wq_l 50 d274_48 rfl rfl rfl rfl ?_
        refine wq_b 198 53 d274_50 rfl (by decide) rfl (fun c50 => absurd c50 (by rw [i_lt, ej]; show ¬ _ < (0 : Int); omega)) (fun c50 => ?_)
        refine wq_l 55 d274_53 rfl rfl rfl rfl ?_
        refine wq_b 90 58 d274_55 rfl (by decide) rfl (fun c55 => ?_) (fun c55 => absurd (by decide) c55)
        refine wq_l 91 d274_90 rfl rfl rfl rfl ?_
        refine wq_gr (ci := 10) (j := 16) (q := 49) 94 d274_91 rfl rfl rfl rfl ?_
        refine wq_l 96 d274_94 rfl rfl rfl rfl ?_
        refine wq_al 97 d274_96 rfl rfl rfl (bj) ?_
        rw [kj]
        refine wq_k 99 25 d274_97 (by decide) rfl ?_
        refine wq_b 117 102 d274_99 rfl (by decide) rfl (fun c99 => absurd c99 (fun z => z (by rw [k25]; rfl))) (fun c99 => ?_)
        refine wq_l 103 d274_102 rfl rfl rfl rfl ?_
        refine wq_gr (ci := 10) (j := 18) (q := 51) 106 d274_103 rfl rfl rfl rfl ?_
        refine wq_l 108 d274_106 rfl rfl rfl rfl ?_
        refine wq_al 109 d274_108 rfl rfl rfl (bj) ?_
        rw [vj]
        refine wq_k 110 2 d274_109 (by decide) rfl ?_
        refine wq_b 117 113 d274_110 rfl (by decide) rfl (fun c110 => ?_) (fun c110 => absurd (by rw [i_lt]; show _ < (2 : Int); omega) c110)
        refine wq_k 118 0 d274_117 (by decide) rfl ?_
        refine wq_s 120 d274_118 rfl rfl (Nat.le_of_ble_eq_true rfl) rfl rfl ?_
        refine wq_l 122 d274_120 rfl rfl rfl rfl ?_
        refine wq_b 151 125 d274_122 rfl (by decide) rfl (fun c122 => ?_) (fun c122 => absurd (by decide) c122)
        refine wq_l 153 d274_151 rfl rfl rfl rfl ?_
        refine wq_b 167 156 d274_153 rfl (by decide) rfl (fun c153 => ?_) (fun c153 => absurd (by decide) c153)
        refine wq_l 168 d274_167 rfl rfl rfl rfl ?_
        refine wq_a 169 d274_168 rfl rfl ?_
        refine wq_gf (ci := 10) (j := 48) (f := 0) (v := .int (nI (u + N))) 172 d274_169 rfl rfl rfl (congrArg Value.int (e48)) rfl ?_
        refine wq_l 174 d274_172 rfl rfl rfl rfl ?_
        refine wq_b 181 177 d274_174 rfl (by decide) rfl (fun c174 => ?_) (fun c174 => absurd (by decide) c174)
        refine wq_k 182 0 d274_181 (by decide) rfl ?_
        refine wq_a 183 d274_182 rfl rfl ?_
        refine wq_pf (ci := 10) (j := 48) 186 d274_183 rfl rfl rfl ⟨rfl, rfl⟩ rfl ?_
        refine wq_l 187 d274_186 rfl rfl rfl rfl ?_
        refine wq_l 189 d274_187 rfl rfl rfl rfl ?_
        refine wq_l 190 d274_189 rfl rfl rfl rfl ?_
        rw [show nI (u + N) + 0 = nI (u + N) from Int32.add_zero _]
        rw [if_neg (by exact fun z => by have z := of_decide_eq_true z; omega)] at ih
        have h2 := rr_u h (u + N)
        generalize ht : pm_pi σ 10 48 (nI (u + N)) = τ at *
        have e57 : τ.2.2 57 = σ.2.2 57 := by rw [← ht]; rfl
        have e58 : τ.2.2 58 = σ.2.2 58 := by rw [← ht]; rfl
        refine wq_v 193 [_, _] d274_190 rfl rfl m275 rfl rfl (Nat.le_of_ble_eq_true rfl) rfl (re275 (rr_T h2) hG i0 (by omega) jz ?_)
        refine wq_s 195 d274_193 rfl rfl (Nat.le_of_ble_eq_true rfl) rfl rfl ?_
        refine wq_g 48 d274_195 (by decide) ?_
        refine ih τ _ (by omega) (by omega) h2 (fun c c1 c2 => ?_) (fun c c1 c2 c3 c4 => ?_)
        · rw [e57, e58]; exact g0 c c1 c2
        · rw [e57]
          by_cases q : c = j
          · rw [q] at c3 c4; omega
          · exact g1 c c1 (by omega) c3 c4
    · skip
      refine wq_l 50 d274_48 rfl rfl rfl rfl ?_
      refine wq_b 198 53 d274_50 rfl (by decide) rfl (fun c50 => absurd c50 (by rw [i_lt, ej]; show ¬ _ < (0 : Int); omega)) (fun c50 => ?_)
      refine wq_l 55 d274_53 rfl rfl rfl rfl ?_
      refine wq_b 90 58 d274_55 rfl (by decide) rfl (fun c55 => ?_) (fun c55 => absurd (by decide) c55)
      refine wq_l 91 d274_90 rfl rfl rfl rfl ?_
      refine wq_gr (ci := 10) (j := 16) (q := 49) 94 d274_91 rfl rfl rfl rfl ?_
      refine wq_l 96 d274_94 rfl rfl rfl rfl ?_
      refine wq_al 97 d274_96 rfl rfl rfl (bj) ?_
      rw [kj]
      refine wq_k 99 25 d274_97 (by decide) rfl ?_
      refine wq_b 117 102 d274_99 rfl (by decide) rfl (fun c99 => ?_) (fun c99 => absurd (fun z => by have z := hp_inj (b := 25) (by omega) (by decide) z; omega) c99)
      refine wq_k 118 0 d274_117 (by decide) rfl ?_
      refine wq_s 120 d274_118 rfl rfl (Nat.le_of_ble_eq_true rfl) rfl rfl ?_
      refine wq_l 122 d274_120 rfl rfl rfl rfl ?_
      refine wq_b 151 125 d274_122 rfl (by decide) rfl (fun c122 => ?_) (fun c122 => absurd (by decide) c122)
      refine wq_l 153 d274_151 rfl rfl rfl rfl ?_
      refine wq_b 167 156 d274_153 rfl (by decide) rfl (fun c153 => ?_) (fun c153 => absurd (by decide) c153)
      refine wq_l 168 d274_167 rfl rfl rfl rfl ?_
      refine wq_a 169 d274_168 rfl rfl ?_
      refine wq_gf (ci := 10) (j := 48) (f := 0) (v := .int (nI (u + N))) 172 d274_169 rfl rfl rfl (congrArg Value.int (e48)) rfl ?_
      refine wq_l 174 d274_172 rfl rfl rfl rfl ?_
      refine wq_b 181 177 d274_174 rfl (by decide) rfl (fun c174 => ?_) (fun c174 => absurd (by decide) c174)
      refine wq_k 182 0 d274_181 (by decide) rfl ?_
      refine wq_a 183 d274_182 rfl rfl ?_
      refine wq_pf (ci := 10) (j := 48) 186 d274_183 rfl rfl rfl ⟨rfl, rfl⟩ rfl ?_
      refine wq_l 187 d274_186 rfl rfl rfl rfl ?_
      refine wq_l 189 d274_187 rfl rfl rfl rfl ?_
      refine wq_l 190 d274_189 rfl rfl rfl rfl ?_
      rw [show nI (u + N) + 0 = nI (u + N) from Int32.add_zero _]
      rw [if_neg (by exact fun z => by have z := of_decide_eq_true z; omega)] at ih
      have h2 := rr_u h (u + N)
      generalize ht : pm_pi σ 10 48 (nI (u + N)) = τ at *
      have e57 : τ.2.2 57 = σ.2.2 57 := by rw [← ht]; rfl
      have e58 : τ.2.2 58 = σ.2.2 58 := by rw [← ht]; rfl
      refine wq_v 193 [_, _] d274_190 rfl rfl m275 rfl rfl (Nat.le_of_ble_eq_true rfl) rfl (re275 (rr_T h2) hG i0 (by omega) jz ?_)
      refine wq_s 195 d274_193 rfl rfl (Nat.le_of_ble_eq_true rfl) rfl rfl ?_
      refine wq_g 48 d274_195 (by decide) ?_
      refine ih τ _ (by omega) (by omega) h2 (fun c c1 c2 => ?_) (fun c c1 c2 c3 c4 => ?_)
      · rw [e57, e58]; exact g0 c c1 c2
      · rw [e57]
        by_cases q : c = j
        · rw [q] at c3 c4; omega
        · exact g1 c c1 (by omega) c3 c4
