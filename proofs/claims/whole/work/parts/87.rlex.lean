theorem d220_0 : decode prog_14_method_27_code 0 = .ok (.iconst 0, 1) := by decide +kernel
theorem d220_1 : decode prog_14_method_27_code 1 = .ok (.istore 5, 2) := by decide +kernel
theorem d220_3 : decode prog_14_method_27_code 3 = .ok (.iload_n 1, 1) := by decide +kernel
theorem d220_4 : decode prog_14_method_27_code 4 = .ok (.istore 6, 2) := by decide +kernel
theorem d220_6 : decode prog_14_method_27_code 6 = .ok (.iload 6, 2) := by decide +kernel
theorem d220_8 : decode prog_14_method_27_code 8 = .ok (.iload_n 1, 1) := by decide +kernel
theorem d220_9 : decode prog_14_method_27_code 9 = .ok (.iload_n 2, 1) := by decide +kernel
theorem d220_10 : decode prog_14_method_27_code 10 = .ok (.iadd, 1) := by decide +kernel
theorem d220_11 : decode prog_14_method_27_code 11 = .ok (.if_icmp .ge 27, 3) := by decide +kernel
theorem d220_14 : decode prog_14_method_27_code 14 = .ok (.bipush 31, 2) := by decide +kernel
theorem d220_16 : decode prog_14_method_27_code 16 = .ok (.iload 5, 2) := by decide +kernel
theorem d220_18 : decode prog_14_method_27_code 18 = .ok (.imul, 1) := by decide +kernel
theorem d220_19 : decode prog_14_method_27_code 19 = .ok (.aload_n 0, 1) := by decide +kernel
theorem d220_20 : decode prog_14_method_27_code 20 = .ok (.getfield 7, 3) := by decide +kernel
theorem d220_23 : decode prog_14_method_27_code 23 = .ok (.iload 6, 2) := by decide +kernel
theorem d220_25 : decode prog_14_method_27_code 25 = .ok (.iaload, 1) := by decide +kernel
theorem d220_26 : decode prog_14_method_27_code 26 = .ok (.invokestatic 124, 3) := by decide +kernel
theorem d220_29 : decode prog_14_method_27_code 29 = .ok (.iadd, 1) := by decide +kernel
theorem d220_30 : decode prog_14_method_27_code 30 = .ok (.istore 5, 2) := by decide +kernel
theorem d220_32 : decode prog_14_method_27_code 32 = .ok (.iinc 6 1, 3) := by decide +kernel
theorem d220_35 : decode prog_14_method_27_code 35 = .ok (.goto (-29), 3) := by decide +kernel
theorem d220_38 : decode prog_14_method_27_code 38 = .ok (.iload 5, 2) := by decide +kernel
theorem d220_40 : decode prog_14_method_27_code 40 = .ok (.sipush 4095, 3) := by decide +kernel
theorem d220_43 : decode prog_14_method_27_code 43 = .ok (.iand, 1) := by decide +kernel
theorem d220_44 : decode prog_14_method_27_code 44 = .ok (.istore 5, 2) := by decide +kernel
theorem d220_46 : decode prog_14_method_27_code 46 = .ok (.aload_n 0, 1) := by decide +kernel
theorem d220_47 : decode prog_14_method_27_code 47 = .ok (.getfield 26, 3) := by decide +kernel
theorem d220_50 : decode prog_14_method_27_code 50 = .ok (.iload 5, 2) := by decide +kernel
theorem d220_52 : decode prog_14_method_27_code 52 = .ok (.iaload, 1) := by decide +kernel
theorem d220_53 : decode prog_14_method_27_code 53 = .ok (.istore 6, 2) := by decide +kernel
theorem d220_55 : decode prog_14_method_27_code 55 = .ok (.iload 6, 2) := by decide +kernel
theorem d220_57 : decode prog_14_method_27_code 57 = .ok (.ifCond .lt 101, 3) := by decide +kernel
theorem d220_60 : decode prog_14_method_27_code 60 = .ok (.aload_n 0, 1) := by decide +kernel
theorem d220_61 : decode prog_14_method_27_code 61 = .ok (.getfield 16, 3) := by decide +kernel
theorem d220_64 : decode prog_14_method_27_code 64 = .ok (.iload 6, 2) := by decide +kernel
theorem d220_66 : decode prog_14_method_27_code 66 = .ok (.iaload, 1) := by decide +kernel
theorem d220_67 : decode prog_14_method_27_code 67 = .ok (.iload_n 2, 1) := by decide +kernel
theorem d220_68 : decode prog_14_method_27_code 68 = .ok (.if_icmp .ne 7, 3) := by decide +kernel
theorem d220_71 : decode prog_14_method_27_code 71 = .ok (.iconst 1, 1) := by decide +kernel
theorem d220_72 : decode prog_14_method_27_code 72 = .ok (.goto 4, 3) := by decide +kernel
theorem d220_75 : decode prog_14_method_27_code 75 = .ok (.iconst 0, 1) := by decide +kernel
theorem d220_76 : decode prog_14_method_27_code 76 = .ok (.istore 7, 2) := by decide +kernel
theorem d220_78 : decode prog_14_method_27_code 78 = .ok (.iconst 0, 1) := by decide +kernel
theorem d220_79 : decode prog_14_method_27_code 79 = .ok (.istore 8, 2) := by decide +kernel
theorem d220_81 : decode prog_14_method_27_code 81 = .ok (.iload 8, 2) := by decide +kernel
theorem d220_83 : decode prog_14_method_27_code 83 = .ok (.iload_n 2, 1) := by decide +kernel
theorem d220_84 : decode prog_14_method_27_code 84 = .ok (.if_icmp .ge 54, 3) := by decide +kernel
theorem d220_87 : decode prog_14_method_27_code 87 = .ok (.iload 7, 2) := by decide +kernel
theorem d220_89 : decode prog_14_method_27_code 89 = .ok (.ifCond .eq 49, 3) := by decide +kernel
theorem d220_92 : decode prog_14_method_27_code 92 = .ok (.aload_n 0, 1) := by decide +kernel
theorem d220_93 : decode prog_14_method_27_code 93 = .ok (.getfield 7, 3) := by decide +kernel
theorem d220_96 : decode prog_14_method_27_code 96 = .ok (.aload_n 0, 1) := by decide +kernel
theorem d220_97 : decode prog_14_method_27_code 97 = .ok (.getfield 13, 3) := by decide +kernel
theorem d220_100 : decode prog_14_method_27_code 100 = .ok (.iload 6, 2) := by decide +kernel
theorem d220_102 : decode prog_14_method_27_code 102 = .ok (.iaload, 1) := by decide +kernel
theorem d220_103 : decode prog_14_method_27_code 103 = .ok (.iload 8, 2) := by decide +kernel
theorem d220_105 : decode prog_14_method_27_code 105 = .ok (.iadd, 1) := by decide +kernel
theorem d220_106 : decode prog_14_method_27_code 106 = .ok (.iaload, 1) := by decide +kernel
theorem d220_107 : decode prog_14_method_27_code 107 = .ok (.invokestatic 124, 3) := by decide +kernel
theorem d220_110 : decode prog_14_method_27_code 110 = .ok (.aload_n 0, 1) := by decide +kernel
theorem d220_111 : decode prog_14_method_27_code 111 = .ok (.getfield 7, 3) := by decide +kernel
theorem d220_114 : decode prog_14_method_27_code 114 = .ok (.iload_n 1, 1) := by decide +kernel
theorem d220_115 : decode prog_14_method_27_code 115 = .ok (.iload 8, 2) := by decide +kernel
theorem d220_117 : decode prog_14_method_27_code 117 = .ok (.iadd, 1) := by decide +kernel
theorem d220_118 : decode prog_14_method_27_code 118 = .ok (.iaload, 1) := by decide +kernel
theorem d220_119 : decode prog_14_method_27_code 119 = .ok (.invokestatic 124, 3) := by decide +kernel
theorem d220_122 : decode prog_14_method_27_code 122 = .ok (.if_icmp .ne 7, 3) := by decide +kernel
theorem d220_125 : decode prog_14_method_27_code 125 = .ok (.iconst 1, 1) := by decide +kernel
theorem d220_126 : decode prog_14_method_27_code 126 = .ok (.goto 4, 3) := by decide +kernel
theorem d220_129 : decode prog_14_method_27_code 129 = .ok (.iconst 0, 1) := by decide +kernel
theorem d220_130 : decode prog_14_method_27_code 130 = .ok (.istore 7, 2) := by decide +kernel
theorem d220_132 : decode prog_14_method_27_code 132 = .ok (.iinc 8 1, 3) := by decide +kernel
theorem d220_135 : decode prog_14_method_27_code 135 = .ok (.goto (-54), 3) := by decide +kernel
theorem d220_138 : decode prog_14_method_27_code 138 = .ok (.iload 7, 2) := by decide +kernel
theorem d220_140 : decode prog_14_method_27_code 140 = .ok (.ifCond .eq 6, 3) := by decide +kernel
theorem d220_143 : decode prog_14_method_27_code 143 = .ok (.iload 6, 2) := by decide +kernel
theorem d220_145 : decode prog_14_method_27_code 145 = .ok (.ireturn, 1) := by decide +kernel
theorem d220_146 : decode prog_14_method_27_code 146 = .ok (.aload_n 0, 1) := by decide +kernel
theorem d220_147 : decode prog_14_method_27_code 147 = .ok (.getfield 19, 3) := by decide +kernel
theorem d220_150 : decode prog_14_method_27_code 150 = .ok (.iload 6, 2) := by decide +kernel
theorem d220_152 : decode prog_14_method_27_code 152 = .ok (.iaload, 1) := by decide +kernel
theorem d220_153 : decode prog_14_method_27_code 153 = .ok (.istore 6, 2) := by decide +kernel
theorem d220_155 : decode prog_14_method_27_code 155 = .ok (.goto (-100), 3) := by decide +kernel
theorem d220_158 : decode prog_14_method_27_code 158 = .ok (.aload_n 0, 1) := by decide +kernel
theorem d220_159 : decode prog_14_method_27_code 159 = .ok (.getfield 13, 3) := by decide +kernel
theorem d220_162 : decode prog_14_method_27_code 162 = .ok (.aload_n 0, 1) := by decide +kernel
theorem d220_163 : decode prog_14_method_27_code 163 = .ok (.getfield 318, 3) := by decide +kernel
theorem d220_166 : decode prog_14_method_27_code 166 = .ok (.iload_n 1, 1) := by decide +kernel
theorem d220_167 : decode prog_14_method_27_code 167 = .ok (.iastore, 1) := by decide +kernel
theorem d220_168 : decode prog_14_method_27_code 168 = .ok (.aload_n 0, 1) := by decide +kernel
theorem d220_169 : decode prog_14_method_27_code 169 = .ok (.getfield 16, 3) := by decide +kernel
theorem d220_172 : decode prog_14_method_27_code 172 = .ok (.aload_n 0, 1) := by decide +kernel
theorem d220_173 : decode prog_14_method_27_code 173 = .ok (.getfield 318, 3) := by decide +kernel
theorem d220_176 : decode prog_14_method_27_code 176 = .ok (.iload_n 2, 1) := by decide +kernel
theorem d220_177 : decode prog_14_method_27_code 177 = .ok (.iastore, 1) := by decide +kernel
theorem d220_178 : decode prog_14_method_27_code 178 = .ok (.aload_n 0, 1) := by decide +kernel
theorem d220_179 : decode prog_14_method_27_code 179 = .ok (.getfield 22, 3) := by decide +kernel
theorem d220_182 : decode prog_14_method_27_code 182 = .ok (.aload_n 0, 1) := by decide +kernel
theorem d220_183 : decode prog_14_method_27_code 183 = .ok (.getfield 318, 3) := by decide +kernel
theorem d220_186 : decode prog_14_method_27_code 186 = .ok (.lload_n 3, 1) := by decide +kernel
theorem d220_187 : decode prog_14_method_27_code 187 = .ok (.lastore, 1) := by decide +kernel
theorem d220_188 : decode prog_14_method_27_code 188 = .ok (.aload_n 0, 1) := by decide +kernel
theorem d220_189 : decode prog_14_method_27_code 189 = .ok (.getfield 19, 3) := by decide +kernel
theorem d220_192 : decode prog_14_method_27_code 192 = .ok (.aload_n 0, 1) := by decide +kernel
theorem d220_193 : decode prog_14_method_27_code 193 = .ok (.getfield 318, 3) := by decide +kernel
theorem d220_196 : decode prog_14_method_27_code 196 = .ok (.aload_n 0, 1) := by decide +kernel
theorem d220_197 : decode prog_14_method_27_code 197 = .ok (.getfield 26, 3) := by decide +kernel
theorem d220_200 : decode prog_14_method_27_code 200 = .ok (.iload 5, 2) := by decide +kernel
theorem d220_202 : decode prog_14_method_27_code 202 = .ok (.iaload, 1) := by decide +kernel
theorem d220_203 : decode prog_14_method_27_code 203 = .ok (.iastore, 1) := by decide +kernel
theorem d220_204 : decode prog_14_method_27_code 204 = .ok (.aload_n 0, 1) := by decide +kernel
theorem d220_205 : decode prog_14_method_27_code 205 = .ok (.getfield 26, 3) := by decide +kernel
theorem d220_208 : decode prog_14_method_27_code 208 = .ok (.iload 5, 2) := by decide +kernel
theorem d220_210 : decode prog_14_method_27_code 210 = .ok (.aload_n 0, 1) := by decide +kernel
theorem d220_211 : decode prog_14_method_27_code 211 = .ok (.getfield 318, 3) := by decide +kernel
theorem d220_214 : decode prog_14_method_27_code 214 = .ok (.iastore, 1) := by decide +kernel
theorem d220_215 : decode prog_14_method_27_code 215 = .ok (.aload_n 0, 1) := by decide +kernel
theorem d220_216 : decode prog_14_method_27_code 216 = .ok (.dup, 1) := by decide +kernel
theorem d220_217 : decode prog_14_method_27_code 217 = .ok (.getfield 318, 3) := by decide +kernel
theorem d220_220 : decode prog_14_method_27_code 220 = .ok (.iconst 1, 1) := by decide +kernel
theorem d220_221 : decode prog_14_method_27_code 221 = .ok (.iadd, 1) := by decide +kernel
theorem d220_222 : decode prog_14_method_27_code 222 = .ok (.putfield 318, 3) := by decide +kernel
theorem d220_225 : decode prog_14_method_27_code 225 = .ok (.aload_n 0, 1) := by decide +kernel
theorem d220_226 : decode prog_14_method_27_code 226 = .ok (.getfield 318, 3) := by decide +kernel
theorem d220_229 : decode prog_14_method_27_code 229 = .ok (.iconst 1, 1) := by decide +kernel
theorem d220_230 : decode prog_14_method_27_code 230 = .ok (.isub, 1) := by decide +kernel
theorem d220_231 : decode prog_14_method_27_code 231 = .ok (.ireturn, 1) := by decide +kernel
theorem m220 : pm_m 220 = some (⟨"TypeRulesModel", "nameOf", "(IIJ)I"⟩, prog_14_method_27_code, 9, (some FieldType.int), 10, 3, 11) := rfl
/-! NAMES of the reference: where each first stands -/
def rx_cd (w : List Nat) : Int64 := if 8 < w.length then 0 else lN (rx_c1 w)
def rx_hh (t : Nat → Nat) (p : Nat × Nat) : Int32 := nm_h t 0 p.1 p.2 &&& 4095
def rx_wd (t : Nat → Nat) (p : Nat × Nat) : List Nat := nt_w t p.1 (p.1 + p.2)
def rx_N (σ : pm_S) (t : Nat → Nat) (M : Nat) (ps : List (Nat × Nat)) : Prop :=
  σ.1 10 9 = nI ps.length ∧ ps.length ≤ 4200 ∧ (∀ (i : Nat) (p : Nat × Nat), ps[i]? = some p → σ.2.2 44 i = nI p.1 ∧ σ.2.2 45 i = nI p.2 ∧ σ.2.1 47 i = rx_cd (rx_wd t p) ∧ p.1 + p.2 ≤ M) ∧
  ∀ b, b < 4096 → ∃ l, nm_C (σ.2.2 46) (σ.2.2 48 b) l ∧ ∀ x, x ∈ l ↔ ∃ p, ps[x]? = some p ∧ rx_hh t p = nI b
theorem rx_hw {t : Nat → Nat} {p q : Nat × Nat} (h : rx_wd t p = rx_wd t q) : rx_hh t p = rx_hh t q := by
  unfold rx_wd at h
  have hl : p.2 = q.2 := by
    have := congrArg List.length h
    rw [nt_w_len, nt_w_len] at this
    omega
  unfold rx_hh
  rw [hl, nm_h_eq q.2 q.1 p.1 0 (fun k hk => ?_)]
  have h1 := congrArg (fun l => l[k]?) h
  simp only [nt_w, List.getElem?_map] at h1
  rw [List.getElem?_range (by omega), List.getElem?_range (by omega)] at h1
  exact Option.some.inj h1
theorem rx_n6 {d : Nat} {σ : pm_S} {Q : Option Value → pm_S → Prop} {t : Nat → Nat} {M : Nat} {a n : Nat} {cd : Int64} (hT : rx_T σ t M) (hn : a + n ≤ M) : ∀ (j k : Nat) (acc : Int32), k + j = a + n → pm_WP pm_Y0 (pm_call pm_Y0 (d + 1)) 10 prog_14_method_27_code (some FieldType.int) Q 38 [.ref 10, .int (nI a), .int (nI n), .long cd, pm_jk, .int (nm_h t acc k j), .int (nI (a + n)), pm_jk, pm_jk] [] σ → pm_WP pm_Y0 (pm_call pm_Y0 (d + 1)) 10 prog_14_method_27_code (some FieldType.int) Q 6 [.ref 10, .int (nI a), .int (nI n), .long cd, pm_jk, .int acc, .int (nI k), pm_jk, pm_jk] [] σ := by
  have hM := hT.2.1
  have ht := hT.2.2.2
  intro j
  induction j with
  | zero =>
    intro k acc hk hQ
    have ek := nI_toInt (n := k) (by omega)
    have ee := nI_toInt (n := a + n) (by omega)
    rw [← hk, Nat.add_zero] at hQ
    refine wq_l 8 d220_6 rfl rfl rfl rfl ?_
    refine wq_l 9 d220_8 rfl rfl rfl rfl ?_
    refine wq_l 10 d220_9 rfl rfl rfl rfl ?_
    refine wq_a 11 d220_10 rfl rfl ?_
    rw [nI_add]
    refine wq_b 38 14 d220_11 rfl (by decide) rfl (fun c11 => ?_) (fun c11 => absurd ((by simp only [i_lt, i_le, i_eq, ne_eq, Int32.reduceToInt, b2_0, b2_1, decide_eq_true_eq, decide_eq_false_iff_not, Bool.not_eq_true, Bool.not_eq_false, ee] at * <;> omega)) c11)
    exact hQ
  | succ j ih =>
    intro k acc hk hQ
    have ek := nI_toInt (n := k) (by omega)
    have ee := nI_toInt (n := a + n) (by omega)
    have tk := ht k
    have hc := hT.2.2.1 k
    refine wq_l 8 d220_6 rfl rfl rfl rfl ?_
    refine wq_l 9 d220_8 rfl rfl rfl rfl ?_
    refine wq_l 10 d220_9 rfl rfl rfl rfl ?_
    refine wq_a 11 d220_10 rfl rfl ?_
    rw [nI_add]
    refine wq_b 38 14 d220_11 rfl (by decide) rfl (fun c11 => absurd c11 ((by simp only [i_lt, i_le, i_eq, ne_eq, Int32.reduceToInt, b2_0, b2_1, decide_eq_true_eq, decide_eq_false_iff_not, Bool.not_eq_true, Bool.not_eq_false, ee] at * <;> omega))) (fun c11 => ?_)
    refine wq_k 16 31 d220_14 (by decide) rfl ?_
    refine wq_l 18 d220_16 rfl rfl rfl rfl ?_
    refine wq_a 19 d220_18 rfl rfl ?_
    refine wq_l 20 d220_19 rfl rfl rfl rfl ?_
    refine wq_gr (ci := 10) (j := 0) (q := 43) 23 d220_20 rfl rfl rfl rfl ?_
    refine wq_l 25 d220_23 rfl rfl rfl rfl ?_
    refine wq_al 26 d220_25 rfl rfl rfl (vp_in_iff.mpr (by simp only [i_lt, i_le, i_eq, ne_eq, Int32.reduceToInt, b2_0, b2_1, decide_eq_true_eq, decide_eq_false_iff_not, Bool.not_eq_true, Bool.not_eq_false] at * <;> omega)) ?_
    rw [nI_clamp (by omega), hc]
    refine wq_vs 29 [_] d220_26 rfl rfl m211 rfl (Nat.le_of_ble_eq_true rfl) rfl (sp211 ?_)
    rw [rx_gn tk]
    refine wq_a 30 d220_29 rfl rfl ?_
    rw [show (31 : Int32) * acc = acc * 31 from Int32.mul_comm _ _]
    refine wq_s 32 d220_30 rfl rfl (Nat.le_of_ble_eq_true rfl) rfl rfl ?_
    refine wq_i 35 d220_32 rfl rfl rfl ?_
    rw [show nI k + Int32.ofInt 1 = nI (k + 1) from (nI_succ k).symm]
    refine wq_g 6 d220_35 (by decide) ?_
    exact ih (k + 1) _ (by omega) hQ
theorem rx_n81 {d : Nat} {σ : pm_S} {Q : Option Value → pm_S → Prop} {t : Nat → Nat} {M : Nat} {a n x b : Nat} {cd : Int64} {hh : Int32} (hT : rx_T σ t M) (hn : a + n ≤ M) (hb : b + n ≤ M) (hx : x < 4200) (hx4 : σ.2.2 44 x = nI b) (h1 : (∀ k, k < n → nm_g (t (b + k)) = nm_g (t (a + k))) → ∀ y, pm_WP pm_Y0 (pm_call pm_Y0 (d + 1)) 10 prog_14_method_27_code (some FieldType.int) Q 138 [.ref 10, .int (nI a), .int (nI n), .long cd, pm_jk, .int hh, .int (nI x), .int 1, .int y] [] σ) (h0 : ¬ (∀ k, k < n → nm_g (t (b + k)) = nm_g (t (a + k))) → ∀ y, pm_WP pm_Y0 (pm_call pm_Y0 (d + 1)) 10 prog_14_method_27_code (some FieldType.int) Q 138 [.ref 10, .int (nI a), .int (nI n), .long cd, pm_jk, .int hh, .int (nI x), .int 0, .int y] [] σ) : ∀ (j k : Nat), k + j = n → (∀ i, i < k → nm_g (t (b + i)) = nm_g (t (a + i))) → pm_WP pm_Y0 (pm_call pm_Y0 (d + 1)) 10 prog_14_method_27_code (some FieldType.int) Q 81 [.ref 10, .int (nI a), .int (nI n), .long cd, pm_jk, .int hh, .int (nI x), .int 1, .int (nI k)] [] σ := by
  have hM := hT.2.1
  have ht := hT.2.2.2
  intro j
  induction j with
  | zero =>
    intro k hk hi
    have ek := nI_toInt (n := k) (by omega)
    have en := nI_toInt (n := n) (by omega)
    refine wq_l 83 d220_81 rfl rfl rfl rfl ?_
    refine wq_l 84 d220_83 rfl rfl rfl rfl ?_
    refine wq_b 138 87 d220_84 rfl (by decide) rfl (fun c84 => ?_) (fun c84 => absurd ((by simp only [i_lt, i_le, i_eq, ne_eq, Int32.reduceToInt, b2_0, b2_1, decide_eq_true_eq, decide_eq_false_iff_not, Bool.not_eq_true, Bool.not_eq_false] at * <;> omega)) c84)
    exact h1 (fun i hi2 => hi i (by omega)) _
  | succ j ih =>
    intro k hk hi
    have ek := nI_toInt (n := k) (by omega)
    have en := nI_toInt (n := n) (by omega)
    have exx := nI_toInt (n := x) (by omega)
    have ebk := nI_toInt (n := b + k) (by omega)
    have eak := nI_toInt (n := a + k) (by omega)
    have t1 := ht (b + k)
    have t2 := ht (a + k)
    have hc1 := hT.2.2.1 (b + k)
    have hc2 := hT.2.2.1 (a + k)
    have g1 := nm_g256 t1
    have g2 := nm_g256 t2
    have q1 := nI_toInt (n := nm_g (t (b + k))) (by omega)
    have q2 := nI_toInt (n := nm_g (t (a + k))) (by omega)
    have hret : ¬ nm_g (t (b + k)) = nm_g (t (a + k)) → ∀ y, pm_WP pm_Y0 (pm_call pm_Y0 (d + 1)) 10 prog_14_method_27_code (some FieldType.int) Q 81 [.ref 10, .int (nI a), .int (nI n), .long cd, pm_jk, .int hh, .int (nI x), .int 0, .int y] [] σ := fun hne y => by
      refine wq_l 83 d220_81 rfl rfl rfl rfl ?_
      refine wq_l 84 d220_83 rfl rfl rfl rfl ?_
      refine wq_b 138 87 d220_84 rfl (by decide) rfl (fun c84 => ?_) (fun c84 => ?_)
      · -- pc 138
        exact h0 (fun z => hne (z k (by omega))) _
      · -- pc 87
        refine wq_l 89 d220_87 rfl rfl rfl rfl ?_
        refine wq_b 138 92 d220_89 rfl (by decide) rfl (fun c89 => ?_) (fun c89 => absurd (rfl) c89)
        exact h0 (fun z => hne (z k (by omega))) _
    refine wq_l 83 d220_81 rfl rfl rfl rfl ?_
    refine wq_l 84 d220_83 rfl rfl rfl rfl ?_
    refine wq_b 138 87 d220_84 rfl (by decide) rfl (fun c84 => absurd c84 ((by simp only [i_lt, i_le, i_eq, ne_eq, Int32.reduceToInt, b2_0, b2_1, decide_eq_true_eq, decide_eq_false_iff_not, Bool.not_eq_true, Bool.not_eq_false] at * <;> omega))) (fun c84 => ?_)
    refine wq_l 89 d220_87 rfl rfl rfl rfl ?_
    refine wq_b 138 92 d220_89 rfl (by decide) rfl (fun c89 => absurd c89 (by decide)) (fun c89 => ?_)
    refine wq_l 93 d220_92 rfl rfl rfl rfl ?_
    refine wq_gr (ci := 10) (j := 0) (q := 43) 96 d220_93 rfl rfl rfl rfl ?_
    refine wq_l 97 d220_96 rfl rfl rfl rfl ?_
    refine wq_gr (ci := 10) (j := 10) (q := 44) 100 d220_97 rfl rfl rfl rfl ?_
    refine wq_l 102 d220_100 rfl rfl rfl rfl ?_
    refine wq_al 103 d220_102 rfl rfl rfl (vp_in_iff.mpr (by simp only [i_lt, i_le, i_eq, ne_eq, Int32.reduceToInt, b2_0, b2_1, decide_eq_true_eq, decide_eq_false_iff_not, Bool.not_eq_true, Bool.not_eq_false] at * <;> omega)) ?_
    rw [nI_clamp (by omega), hx4]
    refine wq_l 105 d220_103 rfl rfl rfl rfl ?_
    refine wq_a 106 d220_105 rfl rfl ?_
    rw [nI_add]
    refine wq_al 107 d220_106 rfl rfl rfl (vp_in_iff.mpr (by simp only [i_lt, i_le, i_eq, ne_eq, Int32.reduceToInt, b2_0, b2_1, decide_eq_true_eq, decide_eq_false_iff_not, Bool.not_eq_true, Bool.not_eq_false, ebk] at * <;> omega)) ?_
    rw [nI_clamp (by omega), hc1]
    refine wq_vs 110 [_] d220_107 rfl rfl m211 rfl (Nat.le_of_ble_eq_true rfl) rfl (sp211 ?_)
    rw [rx_gn t1]
    refine wq_l 111 d220_110 rfl rfl rfl rfl ?_
    refine wq_gr (ci := 10) (j := 0) (q := 43) 114 d220_111 rfl rfl rfl rfl ?_
    refine wq_l 115 d220_114 rfl rfl rfl rfl ?_
    refine wq_l 117 d220_115 rfl rfl rfl rfl ?_
    refine wq_a 118 d220_117 rfl rfl ?_
    rw [nI_add]
    refine wq_al 119 d220_118 rfl rfl rfl (vp_in_iff.mpr (by simp only [i_lt, i_le, i_eq, ne_eq, Int32.reduceToInt, b2_0, b2_1, decide_eq_true_eq, decide_eq_false_iff_not, Bool.not_eq_true, Bool.not_eq_false, eak] at * <;> omega)) ?_
    rw [nI_clamp (by omega), hc2]
    refine wq_vs 122 [_] d220_119 rfl rfl m211 rfl (Nat.le_of_ble_eq_true rfl) rfl (sp211 ?_)
    rw [rx_gn t2]
    refine wq_b 129 125 d220_122 rfl (by decide) rfl (fun c122 => ?_) (fun c122 => ?_)
    · -- pc 129
      refine wq_k 130 0 d220_129 (by decide) rfl ?_
      refine wq_s 132 d220_130 rfl rfl (Nat.le_of_ble_eq_true rfl) rfl rfl ?_
      refine wq_i 135 d220_132 rfl rfl rfl ?_
      rw [show nI k + Int32.ofInt 1 = nI (k + 1) from (nI_succ k).symm]
      refine wq_g 81 d220_135 (by decide) ?_
      first
        | (refine ih (k + 1) (by omega) (fun i hi2 => ?_)
           rcases Nat.lt_or_ge i k with z | z
           · exact hi i z
           · rw [show i = k by omega]; have z1 := c122; simp only [i_lt, i_le, i_eq, ne_eq, Int32.reduceToInt, b2_0, b2_1, decide_eq_true_eq, decide_eq_false_iff_not, Bool.not_eq_true, Bool.not_eq_false, q1, q2] at z1; omega)
        | exact hret (by have z1 := c122; simp only [i_lt, i_le, i_eq, ne_eq, Int32.reduceToInt, b2_0, b2_1, decide_eq_true_eq, decide_eq_false_iff_not, Bool.not_eq_true, Bool.not_eq_false, q1, q2] at z1; omega) _
    · -- pc 125
      refine wq_k 126 1 d220_125 (by decide) rfl ?_
      refine wq_g 130 d220_126 (by decide) ?_
      refine wq_s 132 d220_130 rfl rfl (Nat.le_of_ble_eq_true rfl) rfl rfl ?_
      refine wq_i 135 d220_132 rfl rfl rfl ?_
      rw [show nI k + Int32.ofInt 1 = nI (k + 1) from (nI_succ k).symm]
      refine wq_g 81 d220_135 (by decide) ?_
      first
        | (refine ih (k + 1) (by omega) (fun i hi2 => ?_)
           rcases Nat.lt_or_ge i k with z | z
           · exact hi i z
           · rw [show i = k by omega]; have z1 := c122; simp only [i_lt, i_le, i_eq, ne_eq, Int32.reduceToInt, b2_0, b2_1, decide_eq_true_eq, decide_eq_false_iff_not, Bool.not_eq_true, Bool.not_eq_false, q1, q2] at z1; omega)
        | exact hret (by have z1 := c122; simp only [i_lt, i_le, i_eq, ne_eq, Int32.reduceToInt, b2_0, b2_1, decide_eq_true_eq, decide_eq_false_iff_not, Bool.not_eq_true, Bool.not_eq_false, q1, q2] at z1; omega) _
theorem rx_eqw {t : Nat → Nat} {a b n : Nat} : (∀ k, k < n → nm_g (t (b + k)) = nm_g (t (a + k))) ↔ rx_wd t (b, n) = rx_wd t (a, n) := by
  unfold rx_wd nt_w
  constructor
  · intro h
    show (List.range (b + n - b)).map _ = (List.range (a + n - a)).map _
    rw [show b + n - b = n by omega, show a + n - a = n by omega]
    exact List.map_congr_left (fun k hk => h k (List.mem_range.mp hk))
  · intro h k hk
    have h1 := congrArg (fun l => l[k]?) h
    simp only [List.getElem?_map] at h1
    rw [List.getElem?_range (by omega), List.getElem?_range (by omega)] at h1
    exact Option.some.inj h1
theorem rx_n55 {d : Nat} {σ : pm_S} {Q : Option Value → pm_S → Prop} {t : Nat → Nat} {M : Nat} {a n : Nat} {cd : Int64} {hh : Int32} {ps : List (Nat × Nat)} (hT : rx_T σ t M) (hn : a + n ≤ M) (hN : rx_N σ t M ps) (h1 : ∀ (i : Nat) (p : Nat × Nat), ps[i]? = some p → rx_wd t p = rx_wd t (a, n) → Q (some (.int (nI i))) σ) : ∀ (l : List Nat) (v : Int32) (x7 x8 : Value), nm_C (σ.2.2 46) v l → (∀ x ∈ l, x < ps.length) → ((∀ x ∈ l, ∀ p, ps[x]? = some p → ¬ rx_wd t p = rx_wd t (a, n)) → ∀ x6 x7 x8, pm_WP pm_Y0 (pm_call pm_Y0 (d + 1)) 10 prog_14_method_27_code (some FieldType.int) Q 158 [.ref 10, .int (nI a), .int (nI n), .long cd, pm_jk, .int hh, .int x6, x7, x8] [] σ) → (x7 = pm_jk ∨ ∃ z, x7 = .int z) → pm_WP pm_Y0 (pm_call pm_Y0 (d + 1)) 10 prog_14_method_27_code (some FieldType.int) Q 55 [.ref 10, .int (nI a), .int (nI n), .long cd, pm_jk, .int hh, .int v, x7, x8] [] σ := by
  have hM := hT.2.1
  obtain ⟨n1, n2, n3, n4⟩ := hN
  intro l
  induction l with
  | nil =>
    intro v x7 x8 hv _ hX h7
    have hv : v = -1 := hv
    subst hv
    have hX := hX (fun x hx => absurd hx List.not_mem_nil)
    refine wq_l 57 d220_55 rfl rfl rfl rfl ?_
    refine wq_b 158 60 d220_57 rfl (by decide) rfl (fun c57 => ?_) (fun c57 => absurd (by decide) c57)
    exact hX _ _ _
  | cons x l ih =>
    intro v x7 x8 hv hl hX h7
    obtain ⟨hv1, hv2⟩ := hv
    subst hv1
    have hxl := hl x (List.mem_cons_self ..)
    have ex := nI_toInt (n := x) (by omega)
    have en := nI_toInt (n := n) (by omega)
    obtain ⟨⟨b, nb⟩, hp⟩ : ∃ p, ps[x]? = some p := ⟨_, List.getElem?_eq_getElem hxl⟩
    obtain ⟨g1, g2, g3, g4⟩ := n3 x (b, nb) hp
    have g1 : σ.2.2 44 x = nI b := g1
    have g2 : σ.2.2 45 x = nI nb := g2
    have g4 : b + nb ≤ M := g4
    have enb := nI_toInt (n := nb) (by omega)
    have hnext : ¬ rx_wd t (b, nb) = rx_wd t (a, n) → ∀ x7 x8 : Int32, pm_WP pm_Y0 (pm_call pm_Y0 (d + 1)) 10 prog_14_method_27_code (some FieldType.int) Q 146 [.ref 10, .int (nI a), .int (nI n), .long cd, pm_jk, .int hh, .int (nI x), .int x7, .int x8] [] σ := by
      intro hne y7 y8
      refine wq_l 147 d220_146 rfl rfl rfl rfl ?_
      refine wq_gr (ci := 10) (j := 12) (q := 46) 150 d220_147 rfl rfl rfl rfl ?_
      refine wq_l 152 d220_150 rfl rfl rfl rfl ?_
      refine wq_al 153 d220_152 rfl rfl rfl (vp_in_iff.mpr (by simp only [i_lt, i_le, i_eq, ne_eq, Int32.reduceToInt, b2_0, b2_1, decide_eq_true_eq, decide_eq_false_iff_not, Bool.not_eq_true, Bool.not_eq_false, ex] at * <;> omega)) ?_
      rw [nI_clamp (by omega)]
      refine wq_s 155 d220_153 rfl rfl (Nat.le_of_ble_eq_true rfl) rfl rfl ?_
      refine wq_g 55 d220_155 (by decide) ?_
      refine ih _ _ _ hv2 (fun y hy => hl y (List.mem_cons_of_mem _ hy)) (fun hno => hX (fun y hy p hp2 => ?_)) (Or.inr ⟨_, rfl⟩)
      rcases List.mem_cons.mp hy with z | z
      · rw [z, hp] at hp2; cases hp2; exact hne
      · exact hno y z p hp2
    have hlen : rx_wd t (b, nb) = rx_wd t (a, n) → nb = n := fun h => by
      have := congrArg List.length h
      unfold rx_wd at this
      rw [nt_w_len, nt_w_len] at this
      simp only at this
      omega
    have hyes : rx_wd t (b, nb) = rx_wd t (a, n) → Q (some (.int (nI x))) σ := fun h => h1 x (b, nb) hp h
    clear hX ih h1
    rcases h7 with h7 | ⟨z7, h7⟩ <;> subst h7
    · refine wq_l 57 d220_55 rfl rfl rfl rfl ?_
      refine wq_b 158 60 d220_57 rfl (by decide) rfl (fun c57 => absurd c57 ((by simp only [i_lt, i_le, i_eq, ne_eq, Int32.reduceToInt, b2_0, b2_1, decide_eq_true_eq, decide_eq_false_iff_not, Bool.not_eq_true, Bool.not_eq_false, ex] at * <;> omega))) (fun c57 => ?_)
      refine wq_l 61 d220_60 rfl rfl rfl rfl ?_
      refine wq_gr (ci := 10) (j := 11) (q := 45) 64 d220_61 rfl rfl rfl rfl ?_
      refine wq_l 66 d220_64 rfl rfl rfl rfl ?_
      refine wq_al 67 d220_66 rfl rfl rfl (vp_in_iff.mpr (by simp only [i_lt, i_le, i_eq, ne_eq, Int32.reduceToInt, b2_0, b2_1, decide_eq_true_eq, decide_eq_false_iff_not, Bool.not_eq_true, Bool.not_eq_false, ex] at * <;> omega)) ?_
      rw [nI_clamp (by omega), g2]
      refine wq_l 68 d220_67 rfl rfl rfl rfl ?_
      refine wq_b 75 71 d220_68 rfl (by decide) rfl (fun c68 => ?_) (fun c68 => ?_)
      · -- pc 75
        refine wq_k 76 0 d220_75 (by decide) rfl ?_
        refine wq_s 78 d220_76 rfl rfl (Nat.le_of_ble_eq_true rfl) rfl rfl ?_
        refine wq_k 79 0 d220_78 (by decide) rfl ?_
        refine wq_s 81 d220_79 rfl rfl (Nat.le_of_ble_eq_true rfl) rfl rfl ?_
        first
          | (have hs : nb = n := by have z := c68; simp only [i_lt, i_le, i_eq, ne_eq, Int32.reduceToInt, b2_0, b2_1, decide_eq_true_eq, decide_eq_false_iff_not, Bool.not_eq_true, Bool.not_eq_false, en, enb] at z; omega
             subst hs
             refine rx_n81 hT hn g4 (by omega) g1 (fun hall y => ?_) (fun hall y => ?_) nb 0 (by omega) (fun i hi => absurd hi (by omega))
             · have hy := hyes (rx_eqw.mp hall)
               refine wq_l 140 d220_138 rfl rfl rfl rfl ?_
               refine wq_b 146 143 d220_140 rfl (by decide) rfl (fun c140 => absurd c140 (by decide)) (fun c140 => ?_)
               refine wq_l 145 d220_143 rfl rfl rfl rfl ?_
               refine wq_ri d220_145 (rfl) ?_
               exact hy
             · have hy := hnext (fun z => hall (rx_eqw.mpr z))
               refine wq_l 140 d220_138 rfl rfl rfl rfl ?_
               refine wq_b 146 143 d220_140 rfl (by decide) rfl (fun c140 => ?_) (fun c140 => absurd (rfl) c140)
               exact hy _ _)
          | (have hs : ¬ nb = n := by have z := c68; simp only [i_lt, i_le, i_eq, ne_eq, Int32.reduceToInt, b2_0, b2_1, decide_eq_true_eq, decide_eq_false_iff_not, Bool.not_eq_true, Bool.not_eq_false, en, enb] at z; omega
             have hy := hnext (fun z => hs (hlen z))
             refine wq_l 83 d220_81 rfl rfl rfl rfl ?_
             refine wq_l 84 d220_83 rfl rfl rfl rfl ?_
             refine wq_b 138 87 d220_84 rfl (by decide) rfl (fun _ => ?_) (fun _ => ?_)
             · refine wq_l 140 d220_138 rfl rfl rfl rfl ?_
               refine wq_b 146 143 d220_140 rfl (by decide) rfl (fun _ => ?_) (fun z => absurd rfl z)
               exact hy _ _
             · refine wq_l 89 d220_87 rfl rfl rfl rfl ?_
               refine wq_b 138 92 d220_89 rfl (by decide) rfl (fun _ => ?_) (fun z => absurd rfl z)
               refine wq_l 140 d220_138 rfl rfl rfl rfl ?_
               refine wq_b 146 143 d220_140 rfl (by decide) rfl (fun _ => ?_) (fun z => absurd rfl z)
               exact hy _ _)
      · -- pc 71
        refine wq_k 72 1 d220_71 (by decide) rfl ?_
        refine wq_g 76 d220_72 (by decide) ?_
        refine wq_s 78 d220_76 rfl rfl (Nat.le_of_ble_eq_true rfl) rfl rfl ?_
        refine wq_k 79 0 d220_78 (by decide) rfl ?_
        refine wq_s 81 d220_79 rfl rfl (Nat.le_of_ble_eq_true rfl) rfl rfl ?_
        first
          | (have hs : nb = n := by have z := c68; simp only [i_lt, i_le, i_eq, ne_eq, Int32.reduceToInt, b2_0, b2_1, decide_eq_true_eq, decide_eq_false_iff_not, Bool.not_eq_true, Bool.not_eq_false, en, enb] at z; omega
             subst hs
             refine rx_n81 hT hn g4 (by omega) g1 (fun hall y => ?_) (fun hall y => ?_) nb 0 (by omega) (fun i hi => absurd hi (by omega))
             · have hy := hyes (rx_eqw.mp hall)
               refine wq_l 140 d220_138 rfl rfl rfl rfl ?_
               refine wq_b 146 143 d220_140 rfl (by decide) rfl (fun c140 => absurd c140 (by decide)) (fun c140 => ?_)
               refine wq_l 145 d220_143 rfl rfl rfl rfl ?_
               refine wq_ri d220_145 (rfl) ?_
               exact hy
             · have hy := hnext (fun z => hall (rx_eqw.mpr z))
               refine wq_l 140 d220_138 rfl rfl rfl rfl ?_
               refine wq_b 146 143 d220_140 rfl (by decide) rfl (fun c140 => ?_) (fun c140 => absurd (rfl) c140)
               exact hy _ _)
          | (have hs : ¬ nb = n := by have z := c68; simp only [i_lt, i_le, i_eq, ne_eq, Int32.reduceToInt, b2_0, b2_1, decide_eq_true_eq, decide_eq_false_iff_not, Bool.not_eq_true, Bool.not_eq_false, en, enb] at z; omega
             have hy := hnext (fun z => hs (hlen z))
             refine wq_l 83 d220_81 rfl rfl rfl rfl ?_
             refine wq_l 84 d220_83 rfl rfl rfl rfl ?_
             refine wq_b 138 87 d220_84 rfl (by decide) rfl (fun _ => ?_) (fun _ => ?_)
             · refine wq_l 140 d220_138 rfl rfl rfl rfl ?_
               refine wq_b 146 143 d220_140 rfl (by decide) rfl (fun _ => ?_) (fun z => absurd rfl z)
               exact hy _ _
             · refine wq_l 89 d220_87 rfl rfl rfl rfl ?_
               refine wq_b 138 92 d220_89 rfl (by decide) rfl (fun _ => ?_) (fun z => absurd rfl z)
               refine wq_l 140 d220_138 rfl rfl rfl rfl ?_
               refine wq_b 146 143 d220_140 rfl (by decide) rfl (fun _ => ?_) (fun z => absurd rfl z)
               exact hy _ _)
    · refine wq_l 57 d220_55 rfl rfl rfl rfl ?_
      refine wq_b 158 60 d220_57 rfl (by decide) rfl (fun c57 => absurd c57 ((by simp only [i_lt, i_le, i_eq, ne_eq, Int32.reduceToInt, b2_0, b2_1, decide_eq_true_eq, decide_eq_false_iff_not, Bool.not_eq_true, Bool.not_eq_false, ex] at * <;> omega))) (fun c57 => ?_)
      refine wq_l 61 d220_60 rfl rfl rfl rfl ?_
      refine wq_gr (ci := 10) (j := 11) (q := 45) 64 d220_61 rfl rfl rfl rfl ?_
      refine wq_l 66 d220_64 rfl rfl rfl rfl ?_
      refine wq_al 67 d220_66 rfl rfl rfl (vp_in_iff.mpr (by simp only [i_lt, i_le, i_eq, ne_eq, Int32.reduceToInt, b2_0, b2_1, decide_eq_true_eq, decide_eq_false_iff_not, Bool.not_eq_true, Bool.not_eq_false, ex] at * <;> omega)) ?_
      rw [nI_clamp (by omega), g2]
      refine wq_l 68 d220_67 rfl rfl rfl rfl ?_
      refine wq_b 75 71 d220_68 rfl (by decide) rfl (fun c68 => ?_) (fun c68 => ?_)
      · -- pc 75
        refine wq_k 76 0 d220_75 (by decide) rfl ?_
        refine wq_s 78 d220_76 rfl rfl (Nat.le_of_ble_eq_true rfl) rfl rfl ?_
        refine wq_k 79 0 d220_78 (by decide) rfl ?_
        refine wq_s 81 d220_79 rfl rfl (Nat.le_of_ble_eq_true rfl) rfl rfl ?_
        first
          | (have hs : nb = n := by have z := c68; simp only [i_lt, i_le, i_eq, ne_eq, Int32.reduceToInt, b2_0, b2_1, decide_eq_true_eq, decide_eq_false_iff_not, Bool.not_eq_true, Bool.not_eq_false, en, enb] at z; omega
             subst hs
             refine rx_n81 hT hn g4 (by omega) g1 (fun hall y => ?_) (fun hall y => ?_) nb 0 (by omega) (fun i hi => absurd hi (by omega))
             · have hy := hyes (rx_eqw.mp hall)
               refine wq_l 140 d220_138 rfl rfl rfl rfl ?_
               refine wq_b 146 143 d220_140 rfl (by decide) rfl (fun c140 => absurd c140 (by decide)) (fun c140 => ?_)
               refine wq_l 145 d220_143 rfl rfl rfl rfl ?_
               refine wq_ri d220_145 (rfl) ?_
               exact hy
             · have hy := hnext (fun z => hall (rx_eqw.mpr z))
               refine wq_l 140 d220_138 rfl rfl rfl rfl ?_
               refine wq_b 146 143 d220_140 rfl (by decide) rfl (fun c140 => ?_) (fun c140 => absurd (rfl) c140)
               exact hy _ _)
          | (have hs : ¬ nb = n := by have z := c68; simp only [i_lt, i_le, i_eq, ne_eq, Int32.reduceToInt, b2_0, b2_1, decide_eq_true_eq, decide_eq_false_iff_not, Bool.not_eq_true, Bool.not_eq_false, en, enb] at z; omega
             have hy := hnext (fun z => hs (hlen z))
             refine wq_l 83 d220_81 rfl rfl rfl rfl ?_
             refine wq_l 84 d220_83 rfl rfl rfl rfl ?_
             refine wq_b 138 87 d220_84 rfl (by decide) rfl (fun _ => ?_) (fun _ => ?_)
             · refine wq_l 140 d220_138 rfl rfl rfl rfl ?_
               refine wq_b 146 143 d220_140 rfl (by decide) rfl (fun _ => ?_) (fun z => absurd rfl z)
               exact hy _ _
             · refine wq_l 89 d220_87 rfl rfl rfl rfl ?_
               refine wq_b 138 92 d220_89 rfl (by decide) rfl (fun _ => ?_) (fun z => absurd rfl z)
               refine wq_l 140 d220_138 rfl rfl rfl rfl ?_
               refine wq_b 146 143 d220_140 rfl (by decide) rfl (fun _ => ?_) (fun z => absurd rfl z)
               exact hy _ _)
      · -- pc 71
        refine wq_k 72 1 d220_71 (by decide) rfl ?_
        refine wq_g 76 d220_72 (by decide) ?_
        refine wq_s 78 d220_76 rfl rfl (Nat.le_of_ble_eq_true rfl) rfl rfl ?_
        refine wq_k 79 0 d220_78 (by decide) rfl ?_
        refine wq_s 81 d220_79 rfl rfl (Nat.le_of_ble_eq_true rfl) rfl rfl ?_
        first
          | (have hs : nb = n := by have z := c68; simp only [i_lt, i_le, i_eq, ne_eq, Int32.reduceToInt, b2_0, b2_1, decide_eq_true_eq, decide_eq_false_iff_not, Bool.not_eq_true, Bool.not_eq_false, en, enb] at z; omega
             subst hs
             refine rx_n81 hT hn g4 (by omega) g1 (fun hall y => ?_) (fun hall y => ?_) nb 0 (by omega) (fun i hi => absurd hi (by omega))
             · have hy := hyes (rx_eqw.mp hall)
               refine wq_l 140 d220_138 rfl rfl rfl rfl ?_
               refine wq_b 146 143 d220_140 rfl (by decide) rfl (fun c140 => absurd c140 (by decide)) (fun c140 => ?_)
               refine wq_l 145 d220_143 rfl rfl rfl rfl ?_
               refine wq_ri d220_145 (rfl) ?_
               exact hy
             · have hy := hnext (fun z => hall (rx_eqw.mpr z))
               refine wq_l 140 d220_138 rfl rfl rfl rfl ?_
               refine wq_b 146 143 d220_140 rfl (by decide) rfl (fun c140 => ?_) (fun c140 => absurd (rfl) c140)
               exact hy _ _)
          | (have hs : ¬ nb = n := by have z := c68; simp only [i_lt, i_le, i_eq, ne_eq, Int32.reduceToInt, b2_0, b2_1, decide_eq_true_eq, decide_eq_false_iff_not, Bool.not_eq_true, Bool.not_eq_false, en, enb] at z; omega
             have hy := hnext (fun z => hs (hlen z))
             refine wq_l 83 d220_81 rfl rfl rfl rfl ?_
             refine wq_l 84 d220_83 rfl rfl rfl rfl ?_
             refine wq_b 138 87 d220_84 rfl (by decide) rfl (fun _ => ?_) (fun _ => ?_)
             · refine wq_l 140 d220_138 rfl rfl rfl rfl ?_
               refine wq_b 146 143 d220_140 rfl (by decide) rfl (fun _ => ?_) (fun z => absurd rfl z)
               exact hy _ _
             · refine wq_l 89 d220_87 rfl rfl rfl rfl ?_
               refine wq_b 138 92 d220_89 rfl (by decide) rfl (fun _ => ?_) (fun z => absurd rfl z)
               refine wq_l 140 d220_138 rfl rfl rfl rfl ?_
               refine wq_b 146 143 d220_140 rfl (by decide) rfl (fun _ => ?_) (fun z => absurd rfl z)
               exact hy _ _)
