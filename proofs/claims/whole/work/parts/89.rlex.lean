theorem d215_0 : decode prog_14_method_26_code 0 = .ok (.aload_n 0, 1) := by decide +kernel
theorem d215_1 : decode prog_14_method_26_code 1 = .ok (.getfield 121, 3) := by decide +kernel
theorem d215_4 : decode prog_14_method_26_code 4 = .ok (.istore_n 1, 1) := by decide +kernel
theorem d215_5 : decode prog_14_method_26_code 5 = .ok (.aload_n 0, 1) := by decide +kernel
theorem d215_6 : decode prog_14_method_26_code 6 = .ok (.iconst 0, 1) := by decide +kernel
theorem d215_7 : decode prog_14_method_26_code 7 = .ok (.invokevirtual 141, 3) := by decide +kernel
theorem d215_10 : decode prog_14_method_26_code 10 = .ok (.invokestatic 184, 3) := by decide +kernel
theorem d215_13 : decode prog_14_method_26_code 13 = .ok (.ifCond .eq 16, 3) := by decide +kernel
theorem d215_16 : decode prog_14_method_26_code 16 = .ok (.aload_n 0, 1) := by decide +kernel
theorem d215_17 : decode prog_14_method_26_code 17 = .ok (.dup, 1) := by decide +kernel
theorem d215_18 : decode prog_14_method_26_code 18 = .ok (.getfield 121, 3) := by decide +kernel
theorem d215_21 : decode prog_14_method_26_code 21 = .ok (.iconst 1, 1) := by decide +kernel
theorem d215_22 : decode prog_14_method_26_code 22 = .ok (.iadd, 1) := by decide +kernel
theorem d215_23 : decode prog_14_method_26_code 23 = .ok (.putfield 121, 3) := by decide +kernel
theorem d215_26 : decode prog_14_method_26_code 26 = .ok (.goto (-21), 3) := by decide +kernel
theorem d215_29 : decode prog_14_method_26_code 29 = .ok (.aload_n 0, 1) := by decide +kernel
theorem d215_30 : decode prog_14_method_26_code 30 = .ok (.getfield 121, 3) := by decide +kernel
theorem d215_33 : decode prog_14_method_26_code 33 = .ok (.iload_n 1, 1) := by decide +kernel
theorem d215_34 : decode prog_14_method_26_code 34 = .ok (.isub, 1) := by decide +kernel
theorem d215_35 : decode prog_14_method_26_code 35 = .ok (.istore_n 2, 1) := by decide +kernel
theorem d215_36 : decode prog_14_method_26_code 36 = .ok (.iload_n 2, 1) := by decide +kernel
theorem d215_37 : decode prog_14_method_26_code 37 = .ok (.bipush 32, 2) := by decide +kernel
theorem d215_39 : decode prog_14_method_26_code 39 = .ok (.if_icmp .le 10, 3) := by decide +kernel
theorem d215_42 : decode prog_14_method_26_code 42 = .ok (.aload_n 0, 1) := by decide +kernel
theorem d215_43 : decode prog_14_method_26_code 43 = .ok (.iconst 3, 1) := by decide +kernel
theorem d215_44 : decode prog_14_method_26_code 44 = .ok (.iload_n 1, 1) := by decide +kernel
theorem d215_45 : decode prog_14_method_26_code 45 = .ok (.invokevirtual 144, 3) := by decide +kernel
theorem d215_48 : decode prog_14_method_26_code 48 = .ok (.return_, 1) := by decide +kernel
theorem d215_49 : decode prog_14_method_26_code 49 = .ok (.aload_n 0, 1) := by decide +kernel
theorem d215_50 : decode prog_14_method_26_code 50 = .ok (.iload_n 1, 1) := by decide +kernel
theorem d215_51 : decode prog_14_method_26_code 51 = .ok (.aload_n 0, 1) := by decide +kernel
theorem d215_52 : decode prog_14_method_26_code 52 = .ok (.getfield 121, 3) := by decide +kernel
theorem d215_55 : decode prog_14_method_26_code 55 = .ok (.invokevirtual 304, 3) := by decide +kernel
theorem d215_58 : decode prog_14_method_26_code 58 = .ok (.lstore_n 3, 1) := by decide +kernel
theorem d215_59 : decode prog_14_method_26_code 59 = .ok (.iload_n 2, 1) := by decide +kernel
theorem d215_60 : decode prog_14_method_26_code 60 = .ok (.bipush 8, 2) := by decide +kernel
theorem d215_62 : decode prog_14_method_26_code 62 = .ok (.if_icmp .le 18, 3) := by decide +kernel
theorem d215_65 : decode prog_14_method_26_code 65 = .ok (.aload_n 0, 1) := by decide +kernel
theorem d215_66 : decode prog_14_method_26_code 66 = .ok (.iload_n 1, 1) := by decide +kernel
theorem d215_67 : decode prog_14_method_26_code 67 = .ok (.bipush 8, 2) := by decide +kernel
theorem d215_69 : decode prog_14_method_26_code 69 = .ok (.iadd, 1) := by decide +kernel
theorem d215_70 : decode prog_14_method_26_code 70 = .ok (.aload_n 0, 1) := by decide +kernel
theorem d215_71 : decode prog_14_method_26_code 71 = .ok (.getfield 121, 3) := by decide +kernel
theorem d215_74 : decode prog_14_method_26_code 74 = .ok (.invokevirtual 304, 3) := by decide +kernel
theorem d215_77 : decode prog_14_method_26_code 77 = .ok (.goto 4, 3) := by decide +kernel
theorem d215_80 : decode prog_14_method_26_code 80 = .ok (.lconst 0, 1) := by decide +kernel
theorem d215_81 : decode prog_14_method_26_code 81 = .ok (.lstore 5, 2) := by decide +kernel
theorem d215_83 : decode prog_14_method_26_code 83 = .ok (.iconst 0, 1) := by decide +kernel
theorem d215_84 : decode prog_14_method_26_code 84 = .ok (.istore 7, 2) := by decide +kernel
theorem d215_86 : decode prog_14_method_26_code 86 = .ok (.iload 7, 2) := by decide +kernel
theorem d215_88 : decode prog_14_method_26_code 88 = .ok (.bipush 41, 2) := by decide +kernel
theorem d215_90 : decode prog_14_method_26_code 90 = .ok (.if_icmp .ge 112, 3) := by decide +kernel
theorem d215_93 : decode prog_14_method_26_code 93 = .ok (.iload 7, 2) := by decide +kernel
theorem d215_95 : decode prog_14_method_26_code 95 = .ok (.iconst 3, 1) := by decide +kernel
theorem d215_96 : decode prog_14_method_26_code 96 = .ok (.if_icmp .ne 51, 3) := by decide +kernel
theorem d215_99 : decode prog_14_method_26_code 99 = .ok (.iload_n 2, 1) := by decide +kernel
theorem d215_100 : decode prog_14_method_26_code 100 = .ok (.bipush 18, 2) := by decide +kernel
theorem d215_102 : decode prog_14_method_26_code 102 = .ok (.if_icmp .ne 41, 3) := by decide +kernel
theorem d215_105 : decode prog_14_method_26_code 105 = .ok (.aload_n 0, 1) := by decide +kernel
theorem d215_106 : decode prog_14_method_26_code 106 = .ok (.getfield 7, 3) := by decide +kernel
theorem d215_109 : decode prog_14_method_26_code 109 = .ok (.iload_n 1, 1) := by decide +kernel
theorem d215_110 : decode prog_14_method_26_code 110 = .ok (.bipush 16, 2) := by decide +kernel
theorem d215_112 : decode prog_14_method_26_code 112 = .ok (.iadd, 1) := by decide +kernel
theorem d215_113 : decode prog_14_method_26_code 113 = .ok (.iaload, 1) := by decide +kernel
theorem d215_114 : decode prog_14_method_26_code 114 = .ok (.invokestatic 124, 3) := by decide +kernel
theorem d215_117 : decode prog_14_method_26_code 117 = .ok (.bipush 67, 2) := by decide +kernel
theorem d215_119 : decode prog_14_method_26_code 119 = .ok (.if_icmp .ne 24, 3) := by decide +kernel
theorem d215_122 : decode prog_14_method_26_code 122 = .ok (.aload_n 0, 1) := by decide +kernel
theorem d215_123 : decode prog_14_method_26_code 123 = .ok (.getfield 7, 3) := by decide +kernel
theorem d215_126 : decode prog_14_method_26_code 126 = .ok (.iload_n 1, 1) := by decide +kernel
theorem d215_127 : decode prog_14_method_26_code 127 = .ok (.bipush 17, 2) := by decide +kernel
theorem d215_129 : decode prog_14_method_26_code 129 = .ok (.iadd, 1) := by decide +kernel
theorem d215_130 : decode prog_14_method_26_code 130 = .ok (.iaload, 1) := by decide +kernel
theorem d215_131 : decode prog_14_method_26_code 131 = .ok (.invokestatic 124, 3) := by decide +kernel
theorem d215_134 : decode prog_14_method_26_code 134 = .ok (.bipush 75, 2) := by decide +kernel
theorem d215_136 : decode prog_14_method_26_code 136 = .ok (.if_icmp .ne 7, 3) := by decide +kernel
theorem d215_139 : decode prog_14_method_26_code 139 = .ok (.iconst 1, 1) := by decide +kernel
theorem d215_140 : decode prog_14_method_26_code 140 = .ok (.goto 18, 3) := by decide +kernel
theorem d215_143 : decode prog_14_method_26_code 143 = .ok (.iconst 0, 1) := by decide +kernel
theorem d215_144 : decode prog_14_method_26_code 144 = .ok (.goto 14, 3) := by decide +kernel
theorem d215_147 : decode prog_14_method_26_code 147 = .ok (.iload_n 2, 1) := by decide +kernel
theorem d215_148 : decode prog_14_method_26_code 148 = .ok (.bipush 17, 2) := by decide +kernel
theorem d215_150 : decode prog_14_method_26_code 150 = .ok (.if_icmp .ge 7, 3) := by decide +kernel
theorem d215_153 : decode prog_14_method_26_code 153 = .ok (.iconst 1, 1) := by decide +kernel
theorem d215_154 : decode prog_14_method_26_code 154 = .ok (.goto 4, 3) := by decide +kernel
theorem d215_157 : decode prog_14_method_26_code 157 = .ok (.iconst 0, 1) := by decide +kernel
theorem d215_158 : decode prog_14_method_26_code 158 = .ok (.istore 8, 2) := by decide +kernel
theorem d215_160 : decode prog_14_method_26_code 160 = .ok (.iload 8, 2) := by decide +kernel
theorem d215_162 : decode prog_14_method_26_code 162 = .ok (.ifCond .eq 34, 3) := by decide +kernel
theorem d215_165 : decode prog_14_method_26_code 165 = .ok (.iload 7, 2) := by decide +kernel
theorem d215_167 : decode prog_14_method_26_code 167 = .ok (.invokestatic 308, 3) := by decide +kernel
theorem d215_170 : decode prog_14_method_26_code 170 = .ok (.lload_n 3, 1) := by decide +kernel
theorem d215_171 : decode prog_14_method_26_code 171 = .ok (.lcmp, 1) := by decide +kernel
theorem d215_172 : decode prog_14_method_26_code 172 = .ok (.ifCond .ne 24, 3) := by decide +kernel
theorem d215_175 : decode prog_14_method_26_code 175 = .ok (.iload 7, 2) := by decide +kernel
theorem d215_177 : decode prog_14_method_26_code 177 = .ok (.invokestatic 311, 3) := by decide +kernel
theorem d215_180 : decode prog_14_method_26_code 180 = .ok (.lload 5, 2) := by decide +kernel
theorem d215_182 : decode prog_14_method_26_code 182 = .ok (.lcmp, 1) := by decide +kernel
theorem d215_183 : decode prog_14_method_26_code 183 = .ok (.ifCond .ne 13, 3) := by decide +kernel
theorem d215_186 : decode prog_14_method_26_code 186 = .ok (.aload_n 0, 1) := by decide +kernel
theorem d215_187 : decode prog_14_method_26_code 187 = .ok (.bipush 100, 2) := by decide +kernel
theorem d215_189 : decode prog_14_method_26_code 189 = .ok (.iload 7, 2) := by decide +kernel
theorem d215_191 : decode prog_14_method_26_code 191 = .ok (.iadd, 1) := by decide +kernel
theorem d215_192 : decode prog_14_method_26_code 192 = .ok (.putfield 157, 3) := by decide +kernel
theorem d215_195 : decode prog_14_method_26_code 195 = .ok (.return_, 1) := by decide +kernel
theorem d215_196 : decode prog_14_method_26_code 196 = .ok (.iinc 7 1, 3) := by decide +kernel
theorem d215_199 : decode prog_14_method_26_code 199 = .ok (.goto (-113), 3) := by decide +kernel
theorem d215_202 : decode prog_14_method_26_code 202 = .ok (.aload_n 0, 1) := by decide +kernel
theorem d215_203 : decode prog_14_method_26_code 203 = .ok (.iconst 1, 1) := by decide +kernel
theorem d215_204 : decode prog_14_method_26_code 204 = .ok (.putfield 157, 3) := by decide +kernel
theorem d215_207 : decode prog_14_method_26_code 207 = .ok (.aload_n 0, 1) := by decide +kernel
theorem d215_208 : decode prog_14_method_26_code 208 = .ok (.aload_n 0, 1) := by decide +kernel
theorem d215_209 : decode prog_14_method_26_code 209 = .ok (.iload_n 1, 1) := by decide +kernel
theorem d215_210 : decode prog_14_method_26_code 210 = .ok (.iload_n 2, 1) := by decide +kernel
theorem d215_211 : decode prog_14_method_26_code 211 = .ok (.iload_n 2, 1) := by decide +kernel
theorem d215_212 : decode prog_14_method_26_code 212 = .ok (.bipush 8, 2) := by decide +kernel
theorem d215_214 : decode prog_14_method_26_code 214 = .ok (.if_icmp .le 7, 3) := by decide +kernel
theorem d215_217 : decode prog_14_method_26_code 217 = .ok (.lconst 0, 1) := by decide +kernel
theorem d215_218 : decode prog_14_method_26_code 218 = .ok (.goto 4, 3) := by decide +kernel
theorem d215_221 : decode prog_14_method_26_code 221 = .ok (.lload_n 3, 1) := by decide +kernel
theorem d215_222 : decode prog_14_method_26_code 222 = .ok (.invokevirtual 314, 3) := by decide +kernel
theorem d215_225 : decode prog_14_method_26_code 225 = .ok (.putfield 154, 3) := by decide +kernel
theorem d215_228 : decode prog_14_method_26_code 228 = .ok (.return_, 1) := by decide +kernel
theorem m215 : pm_m 215 = some (⟨"TypeRulesModel", "word", "()V"⟩, prog_14_method_26_code, 9, none, 10, 0, 11) := rfl
/-! A WORD or a name -/
theorem lx_ne_np {t : Nat → Nat} {M : Nat} : ∀ (n p : Nat), M - p = n → ∀ i, p ≤ i → i < lx_ne t M p → lx_np (t i) = true := by
  intro n
  induction n with
  | zero =>
    intro p h i h1 h2
    rw [lx_ne_u, if_neg (by omega)] at h2
    omega
  | succ n ih =>
    intro p h i h1 h2
    rw [lx_ne_u] at h2
    by_cases q : p < M ∧ lx_np (t p) = true
    · rw [if_pos q] at h2
      rcases Nat.eq_or_lt_of_le h1 with z | z
      · rw [← z]; exact q.2
      · exact ih (p + 1) (by omega) i z h2
    · rw [if_neg q] at h2
      omega
theorem nt_w_1 {t : Nat → Nat} {M p : Nat} (ht : ∀ i, t i < 256) : ∀ x ∈ nt_w t p (lx_ne t M p), 1 ≤ x ∧ x < 256 := fun x hx => by
  refine ⟨?_, nt_w_lt ht x hx⟩
  unfold nt_w at hx
  obtain ⟨k, hk, hkx⟩ := List.mem_map.mp hx
  have hk := List.mem_range.mp hk
  have h1 := lx_ne_np (t := t) (M := M) _ p rfl (p + k) (by omega) (by omega)
  have h2 := nm_gc (t (p + k))
  unfold lx_np at h1
  have h1 := of_decide_eq_true h1
  omega
theorem rx_mt {W : List Nat} {w : Nat} (hw : w < 41) (hW : ∀ x ∈ W, 1 ≤ x ∧ x < 256) (h1 : rx_c1 (rx_W w) = rx_c1 W) (h2 : rx_c2 (rx_W w) = rx_c2 W) (hs : (w ≠ 3 ∧ W.length < 17) ∨ (w = 3 ∧ W.length = 18 ∧ W.drop 16 = [67, 75])) : W = rx_W w := by
  obtain ⟨f1, f2, f3, f4⟩ := rx_W_f w hw
  have e := rx_c12 f1 hW h1 h2
  rcases hs with ⟨s1, s2⟩ | ⟨s1, s2, s3⟩
  · have g := f3 s1
    rw [List.take_of_length_le g, List.take_of_length_le (by omega)] at e
    exact e.symm
  · obtain ⟨g1, g2⟩ := f4 s1
    rw [← List.take_append_drop 16 W, ← List.take_append_drop 16 (rx_W w), e, s3, g2]
theorem lN_inj {a b : Nat} (ha : a < 2 ^ 64) (hb : b < 2 ^ 64) (h : lN a = lN b) : a = b := by
  have h1 := congrArg (fun x => x.toBitVec.toNat) h
  have h1 : (BitVec.ofNat 64 a).toNat = (BitVec.ofNat 64 b).toNat := h1
  rw [BitVec.toNat_ofNat, BitVec.toNat_ofNat, Nat.mod_eq_of_lt ha, Nat.mod_eq_of_lt hb] at h1
  exact h1
theorem rx_c_lt {l : List Nat} (h : ∀ x ∈ l, x < 256) : rx_pk (l.take 8) < 2 ^ 64 := by
  have h1 := rx_pk_lt _ (l.take 8) rfl (fun x hx => h x (List.mem_of_mem_take hx))
  have h2 : 256 ^ (l.take 8).length ≤ 256 ^ 8 := Nat.pow_le_pow_right (by decide) (by rw [List.length_take]; omega)
  have h3 : 256 ^ 8 = 2 ^ 64 := by decide
  omega
theorem rx_d2 {t : Nat → Nat} {p e : Nat} (h : e - p = 18) : (nt_w t p e).drop 16 = [nm_g (t (p + 16)), nm_g (t (p + 17))] := by
  rw [nt_w_drop]
  unfold nt_w
  rw [show e - (p + 16) = 2 by omega]
  rfl
theorem rx_w5 {d : Nat} {σ : pm_S} {Q : Option Value → pm_S → Prop} {t : Nat → Nat} {M : Nat} {p : Nat} (hT : rx_T σ t M) : ∀ (n q : Nat), M - q = n → q ≤ M → pm_WP pm_Y0 (pm_call pm_Y0 (d + 3)) 10 prog_14_method_26_code none Q 29 [.ref 10, .int (nI p), pm_jk, pm_jk, pm_jk, pm_jk, pm_jk, pm_jk, pm_jk] [] (rs σ (lx_ne t M q)) → pm_WP pm_Y0 (pm_call pm_Y0 (d + 3)) 10 prog_14_method_26_code none Q 5 [.ref 10, .int (nI p), pm_jk, pm_jk, pm_jk, pm_jk, pm_jk, pm_jk, pm_jk] [] (rs σ q) := by
  have hM := hT.2.1
  have ht := hT.2.2.2
  intro n
  induction n with
  | zero =>
    intro q hn hq hQ
    have e0 := lx_ci (M := M) ht q
    rw [lx_ne_u, if_neg (by omega)] at hQ
    have hz : lx_np (lx_i t M q) = false := by rw [lx_i_out (by omega)]; rfl
    refine wq_l 6 d215_5 rfl rfl rfl rfl ?_
    refine wq_k 7 0 d215_6 (by decide) rfl ?_
    refine wq_v 10 [_] d215_7 rfl rfl m205 rfl rfl (Nat.le_of_ble_eq_true rfl) rfl (sp205z hT (by omega) ?_)
    refine wq_vs 13 [_] d215_10 rfl rfl m213 rfl (Nat.le_of_ble_eq_true rfl) rfl (sp213 ?_)
    rw [e0, hz]
    refine wq_b 29 16 d215_13 rfl (by decide) rfl (fun c13 => ?_) (fun c13 => absurd (rfl) c13)
    exact hQ
  | succ n ih =>
    intro q hn hq hQ
    have e0 := lx_ci (M := M) ht q
    have ei : lx_i t M q = (t q : Int) := if_pos (by omega)
    rw [lx_ne_u] at hQ
    refine wq_l 6 d215_5 rfl rfl rfl rfl ?_
    refine wq_k 7 0 d215_6 (by decide) rfl ?_
    refine wq_v 10 [_] d215_7 rfl rfl m205 rfl rfl (Nat.le_of_ble_eq_true rfl) rfl (sp205z hT (by omega) ?_)
    refine wq_vs 13 [_] d215_10 rfl rfl m213 rfl (Nat.le_of_ble_eq_true rfl) rfl (sp213 ?_)
    rw [e0, ei]
    refine wq_b 29 16 d215_13 rfl (by decide) rfl (fun c13 => ?_) (fun c13 => ?_)
    · -- pc 29
      have hnp : lx_np (t q) = false := by simpa only [i_lt, i_le, i_eq, ne_eq, Int32.reduceToInt, b2_0, b2_1, decide_eq_true_eq, decide_eq_false_iff_not, Bool.not_eq_true, Bool.not_eq_false] using c13
      rw [if_neg (fun z => by rw [hnp] at z; exact absurd z.2 (by decide))] at hQ
      exact hQ
    · -- pc 16
      have hnp : lx_np (t q) = true := by simpa only [i_lt, i_le, i_eq, ne_eq, Int32.reduceToInt, b2_0, b2_1, decide_eq_true_eq, decide_eq_false_iff_not, Bool.not_eq_true, Bool.not_eq_false] using c13
      rw [if_pos ⟨by omega, hnp⟩] at hQ
      refine wq_l 17 d215_16 rfl rfl rfl rfl ?_
      refine wq_a 18 d215_17 rfl rfl ?_
      refine wq_gi (ci := 10) (j := 2) 21 d215_18 rfl rfl rfl rfl ?_
      rw [rs_2]
      refine wq_k 22 1 d215_21 (by decide) rfl ?_
      refine wq_a 23 d215_22 rfl rfl ?_
      refine wq_pf (ci := 10) (j := 2) 26 d215_23 rfl rfl rfl ⟨rfl, rfl⟩ rfl ?_
      rw [show nI q + 1 = nI (q + 1) from (nI_succ q).symm, rs_p]
      refine wq_g 5 d215_26 (by decide) ?_
      exact ih (q + 1) (by omega) (by omega) hQ
theorem rx_w86 {d : Nat} {σ : pm_S} {Q : Option Value → pm_S → Prop} {t : Nat → Nat} {M : Nat} {p e : Nat} (hT : rx_T σ t M) (hp : p < e) (he : e ≤ M) (h1 : ∀ x ∈ nt_w t p e, 1 ≤ x ∧ x < 256) (hW : ∀ w, w < 41 → nt_w t p e = rx_W w → Q none (pm_pi (rs σ e) 10 3 (nI (100 + w)))) (hN : (∀ w, w < 41 → ¬ nt_w t p e = rx_W w) → ∀ x7 x8, pm_WP pm_Y0 (pm_call pm_Y0 (d + 3)) 10 prog_14_method_26_code none Q 202 [.ref 10, .int (nI p), .int (nI (e - p)), .long (lN (rx_c1 (nt_w t p e))), pm_jk, .long (lN (rx_c2 (nt_w t p e))), pm_jk, .int x7, x8] [] (rs σ e)) : ∀ (j w : Nat) (x8 : Value), w + j = 41 → (∀ k, k < w → ¬ nt_w t p e = rx_W k) → pm_WP pm_Y0 (pm_call pm_Y0 (d + 3)) 10 prog_14_method_26_code none Q 86 [.ref 10, .int (nI p), .int (nI (e - p)), .long (lN (rx_c1 (nt_w t p e))), pm_jk, .long (lN (rx_c2 (nt_w t p e))), pm_jk, .int (nI w), x8] [] (rs σ e) := by
  have hM := hT.2.1
  have ht := hT.2.2.2
  have hlen : (nt_w t p e).length = e - p := nt_w_len
  intro j
  induction j with
  | zero =>
    intro w x8 hj hk
    have ew := nI_toInt (n := w) (by omega)
    refine wq_l 88 d215_86 rfl rfl rfl rfl ?_
    refine wq_k 90 41 d215_88 (by decide) rfl ?_
    refine wq_b 202 93 d215_90 rfl (by decide) rfl (fun c90 => ?_) (fun c90 => absurd ((by simp only [i_lt, i_le, i_eq, ne_eq, Int32.reduceToInt, b2_0, b2_1, decide_eq_true_eq, decide_eq_false_iff_not, Bool.not_eq_true, Bool.not_eq_false] at * <;> omega)) c90)
    exact hN (fun k hk2 => hk k (by omega)) _ _
  | succ j ih =>
    intro w x8 hj hk
    have ew := nI_toInt (n := w) (by omega)
    have en := nI_toInt (n := e - p) (by omega)
    obtain ⟨f1, f2, f3, f4⟩ := rx_W_f w (by omega)
    have b1 := rx_c_lt (l := nt_w t p e) (fun x hx => (h1 x hx).2)
    have b2 := rx_c_lt (l := (nt_w t p e).drop 8) (fun x hx => (h1 x (List.mem_of_mem_drop hx)).2)
    have b3 := rx_c_lt (l := rx_W w) (fun x hx => (f1 x hx).2)
    have b4 := rx_c_lt (l := (rx_W w).drop 8) (fun x hx => (f1 x (List.mem_of_mem_drop hx)).2)
    have q1 : lg_cmp (lN (rx_c1 (rx_W w))) (lN (rx_c1 (nt_w t p e))) = 0 ↔ rx_c1 (rx_W w) = rx_c1 (nt_w t p e) := by
      rw [lc_eq, Int64.toInt_inj]
      exact ⟨fun z => lN_inj b3 b1 z, fun z => by rw [z]⟩
    have q2 : lg_cmp (lN (rx_c2 (rx_W w))) (lN (rx_c2 (nt_w t p e))) = 0 ↔ rx_c2 (rx_W w) = rx_c2 (nt_w t p e) := by
      rw [lc_eq, Int64.toInt_inj]
      exact ⟨fun z => lN_inj b4 b2 z, fun z => by rw [z]⟩
    have hgo : ¬ nt_w t p e = rx_W w → ∀ x8 : Int32, pm_WP pm_Y0 (pm_call pm_Y0 (d + 3)) 10 prog_14_method_26_code none Q 196 [.ref 10, .int (nI p), .int (nI (e - p)), .long (lN (rx_c1 (nt_w t p e))), pm_jk, .long (lN (rx_c2 (nt_w t p e))), pm_jk, .int (nI w), .int x8] [] (rs σ e) := by
      intro hne x8
      refine wq_i 199 d215_196 rfl rfl rfl ?_
      rw [show nI w + Int32.ofInt 1 = nI (w + 1) from (nI_succ w).symm]
      refine wq_g 86 d215_199 (by decide) ?_
      refine ih (w + 1) _ (by omega) (fun k hk2 => ?_)
      rcases Nat.lt_or_ge k w with z | z
      · exact hk k z
      · rw [show k = w by omega]; exact hne
    have K : ∀ fl : Int32, (fl = 1 ∧ ((w ≠ 3 ∧ (nt_w t p e).length < 17) ∨ (w = 3 ∧ (nt_w t p e).length = 18 ∧ (nt_w t p e).drop 16 = [67, 75]))) ∨ (fl = 0 ∧ ¬ nt_w t p e = rx_W w) → pm_WP pm_Y0 (pm_call pm_Y0 (d + 3)) 10 prog_14_method_26_code none Q 160 [.ref 10, .int (nI p), .int (nI (e - p)), .long (lN (rx_c1 (nt_w t p e))), pm_jk, .long (lN (rx_c2 (nt_w t p e))), pm_jk, .int (nI w), .int fl] [] (rs σ e) := by
      intro fl hfl
      refine wq_l 162 d215_160 rfl rfl rfl rfl ?_
      refine wq_b 196 165 d215_162 rfl (by decide) rfl (fun c162 => ?_) (fun c162 => ?_)
      · -- pc 196
        refine hgo (fun z => ?_) _
        first
          | (have z1 := c183; rw [q2] at z1; exact z1 (by rw [z]))
          | (have z1 := c172; rw [q1] at z1; exact z1 (by rw [z]))
          | (rcases hfl with w1 | w1; (rw [w1.1] at c162; exact absurd c162 (by decide)); exact w1.2 z)
      · -- pc 165
        have hs := (hfl.resolve_right (fun z => c162 z.1)).2
        refine wq_l 167 d215_165 rfl rfl rfl rfl ?_
        refine wq_vs 170 [_] d215_167 rfl rfl m217 rfl (Nat.le_of_ble_eq_true rfl) rfl (sp217 (by omega) ?_)
        refine wq_l 171 d215_170 rfl rfl rfl rfl ?_
        refine wq_a 172 d215_171 rfl rfl ?_
        refine wq_b 196 175 d215_172 rfl (by decide) rfl (fun c172 => ?_) (fun c172 => ?_)
        · -- pc 196
          refine hgo (fun z => ?_) _
          first
            | (have z1 := c183; rw [q2] at z1; exact z1 (by rw [z]))
            | (have z1 := c172; rw [q1] at z1; exact z1 (by rw [z]))
            | (rcases hfl with w1 | w1; (rw [w1.1] at c162; exact absurd c162 (by decide)); exact w1.2 z)
        · -- pc 175
          refine wq_l 177 d215_175 rfl rfl rfl rfl ?_
          refine wq_vs 180 [_] d215_177 rfl rfl m219 rfl (Nat.le_of_ble_eq_true rfl) rfl (sp219 (by omega) ?_)
          refine wq_l 182 d215_180 rfl rfl rfl rfl ?_
          refine wq_a 183 d215_182 rfl rfl ?_
          refine wq_b 196 186 d215_183 rfl (by decide) rfl (fun c183 => ?_) (fun c183 => ?_)
          · -- pc 196
            refine hgo (fun z => ?_) _
            first
              | (have z1 := c183; rw [q2] at z1; exact z1 (by rw [z]))
              | (have z1 := c172; rw [q1] at z1; exact z1 (by rw [z]))
              | (rcases hfl with w1 | w1; (rw [w1.1] at c162; exact absurd c162 (by decide)); exact w1.2 z)
          · -- pc 186
            refine wq_l 187 d215_186 rfl rfl rfl rfl ?_
            refine wq_k 189 100 d215_187 (by decide) rfl ?_
            refine wq_l 191 d215_189 rfl rfl rfl rfl ?_
            refine wq_a 192 d215_191 rfl rfl ?_
            rw [show (100 : Int32) = nI 100 from rfl, nI_add]
            refine wq_pf (ci := 10) (j := 3) 195 d215_192 rfl rfl rfl ⟨rfl, rfl⟩ rfl ?_
            refine wq_rv d215_195 ?_
            have z1 := Classical.not_not.mp c172
            have z2 := Classical.not_not.mp c183
            rw [q1] at z1
            rw [q2] at z2
            exact hW w (by omega) (rx_mt (by omega) h1 z1 z2 hs)
    have tA := ht (p + 16)
    have tB := ht (p + 17)
    have gA := nI_toInt (n := nm_g (t (p + 16))) (by have := nm_g256 tA; omega)
    have gB := nI_toInt (n := nm_g (t (p + 17))) (by have := nm_g256 tB; omega)
    have hcA : (rs σ e).2.2 43 (p + 16) = nI (t (p + 16)) := hT.2.2.1 _
    have hcB : (rs σ e).2.2 43 (p + 17) = nI (t (p + 17)) := hT.2.2.1 _
    have eA := nI_toInt (n := p + 16) (by omega)
    have eB := nI_toInt (n := p + 17) (by omega)
    have hd2 := fun h => rx_d2 (t := t) (p := p) (e := e) h
    have hno3 : w = 3 → ¬ ((nt_w t p e).length = 18 ∧ (nt_w t p e).drop 16 = [67, 75]) → ¬ nt_w t p e = rx_W w := fun h3 hn hz => by
      obtain ⟨g1, g2⟩ := f4 h3
      rw [← hz] at g1 g2
      exact hn ⟨g1, g2⟩
    refine wq_l 88 d215_86 rfl rfl rfl rfl ?_
    refine wq_k 90 41 d215_88 (by decide) rfl ?_
    refine wq_b 202 93 d215_90 rfl (by decide) rfl (fun c90 => absurd c90 ((by simp only [i_lt, i_le, i_eq, ne_eq, Int32.reduceToInt, b2_0, b2_1, decide_eq_true_eq, decide_eq_false_iff_not, Bool.not_eq_true, Bool.not_eq_false] at * <;> omega))) (fun c90 => ?_)
    refine wq_l 95 d215_93 rfl rfl rfl rfl ?_
    refine wq_k 96 3 d215_95 (by decide) rfl ?_
    refine wq_b 147 99 d215_96 rfl (by decide) rfl (fun c96 => ?_) (fun c96 => ?_)
    · -- pc 147
      refine wq_l 148 d215_147 rfl rfl rfl rfl ?_
      refine wq_k 150 17 d215_148 (by decide) rfl ?_
      refine wq_b 157 153 d215_150 rfl (by decide) rfl (fun c150 => ?_) (fun c150 => ?_)
      · -- pc 157
        refine wq_k 158 0 d215_157 (by decide) rfl ?_
        refine wq_s 160 d215_158 rfl rfl (Nat.le_of_ble_eq_true rfl) rfl rfl ?_
        first
          | exact K _ (Or.inl ⟨rfl, Or.inl ⟨by have z := c96; simp only [i_lt, i_le, i_eq, ne_eq, Int32.reduceToInt, b2_0, b2_1, decide_eq_true_eq, decide_eq_false_iff_not, Bool.not_eq_true, Bool.not_eq_false, ew] at z; omega, by rw [hlen]; have z := c150; simp only [i_lt, i_le, i_eq, ne_eq, Int32.reduceToInt, b2_0, b2_1, decide_eq_true_eq, decide_eq_false_iff_not, Bool.not_eq_true, Bool.not_eq_false, en] at z; omega⟩⟩)
          | exact K _ (Or.inl ⟨rfl, Or.inr ⟨by have z := c96; simp only [i_lt, i_le, i_eq, ne_eq, Int32.reduceToInt, b2_0, b2_1, decide_eq_true_eq, decide_eq_false_iff_not, Bool.not_eq_true, Bool.not_eq_false, ew] at z; omega, by rw [hlen]; have z := c102; simp only [i_lt, i_le, i_eq, ne_eq, Int32.reduceToInt, b2_0, b2_1, decide_eq_true_eq, decide_eq_false_iff_not, Bool.not_eq_true, Bool.not_eq_false, en] at z; omega, by rw [hd2 (by have z := c102; simp only [i_lt, i_le, i_eq, ne_eq, Int32.reduceToInt, b2_0, b2_1, decide_eq_true_eq, decide_eq_false_iff_not, Bool.not_eq_true, Bool.not_eq_false, en] at z; omega), show nm_g (t (p + 16)) = 67 from by have z := c119; simp only [i_lt, i_le, i_eq, ne_eq, Int32.reduceToInt, b2_0, b2_1, decide_eq_true_eq, decide_eq_false_iff_not, Bool.not_eq_true, Bool.not_eq_false, gA] at z; omega, show nm_g (t (p + 17)) = 75 from by have z := c136; simp only [i_lt, i_le, i_eq, ne_eq, Int32.reduceToInt, b2_0, b2_1, decide_eq_true_eq, decide_eq_false_iff_not, Bool.not_eq_true, Bool.not_eq_false, gB] at z; omega]⟩⟩)
          | exact K _ (Or.inr ⟨rfl, fun hz => by have z := c150; simp only [i_lt, i_le, i_eq, ne_eq, Int32.reduceToInt, b2_0, b2_1, decide_eq_true_eq, decide_eq_false_iff_not, Bool.not_eq_true, Bool.not_eq_false, en] at z; have g := f3 (by have z := c96; simp only [i_lt, i_le, i_eq, ne_eq, Int32.reduceToInt, b2_0, b2_1, decide_eq_true_eq, decide_eq_false_iff_not, Bool.not_eq_true, Bool.not_eq_false, ew] at z; omega); rw [← hz, hlen] at g; omega⟩)
          | exact K _ (Or.inr ⟨rfl, hno3 (by have z := c96; simp only [i_lt, i_le, i_eq, ne_eq, Int32.reduceToInt, b2_0, b2_1, decide_eq_true_eq, decide_eq_false_iff_not, Bool.not_eq_true, Bool.not_eq_false, ew] at z; omega) (fun hz => by have z := c102; simp only [i_lt, i_le, i_eq, ne_eq, Int32.reduceToInt, b2_0, b2_1, decide_eq_true_eq, decide_eq_false_iff_not, Bool.not_eq_true, Bool.not_eq_false, en] at z; omega)⟩)
          | exact K _ (Or.inr ⟨rfl, hno3 (by have z := c96; simp only [i_lt, i_le, i_eq, ne_eq, Int32.reduceToInt, b2_0, b2_1, decide_eq_true_eq, decide_eq_false_iff_not, Bool.not_eq_true, Bool.not_eq_false, ew] at z; omega) (fun hz => by have z1 := c119; simp only [i_lt, i_le, i_eq, ne_eq, Int32.reduceToInt, b2_0, b2_1, decide_eq_true_eq, decide_eq_false_iff_not, Bool.not_eq_true, Bool.not_eq_false, gA] at z1; have y := hz.2; rw [hd2 (by omega)] at y; injection y with y1 y2; omega)⟩)
          | exact K _ (Or.inr ⟨rfl, hno3 (by have z := c96; simp only [i_lt, i_le, i_eq, ne_eq, Int32.reduceToInt, b2_0, b2_1, decide_eq_true_eq, decide_eq_false_iff_not, Bool.not_eq_true, Bool.not_eq_false, ew] at z; omega) (fun hz => by have z1 := c136; simp only [i_lt, i_le, i_eq, ne_eq, Int32.reduceToInt, b2_0, b2_1, decide_eq_true_eq, decide_eq_false_iff_not, Bool.not_eq_true, Bool.not_eq_false, gB] at z1; have y := hz.2; rw [hd2 (by omega)] at y; injection y with y1 y2; injection y2 with y3 y4; omega)⟩)
      · -- pc 153
        refine wq_k 154 1 d215_153 (by decide) rfl ?_
        refine wq_g 158 d215_154 (by decide) ?_
        refine wq_s 160 d215_158 rfl rfl (Nat.le_of_ble_eq_true rfl) rfl rfl ?_
        first
          | exact K _ (Or.inl ⟨rfl, Or.inl ⟨by have z := c96; simp only [i_lt, i_le, i_eq, ne_eq, Int32.reduceToInt, b2_0, b2_1, decide_eq_true_eq, decide_eq_false_iff_not, Bool.not_eq_true, Bool.not_eq_false, ew] at z; omega, by rw [hlen]; have z := c150; simp only [i_lt, i_le, i_eq, ne_eq, Int32.reduceToInt, b2_0, b2_1, decide_eq_true_eq, decide_eq_false_iff_not, Bool.not_eq_true, Bool.not_eq_false, en] at z; omega⟩⟩)
          | exact K _ (Or.inl ⟨rfl, Or.inr ⟨by have z := c96; simp only [i_lt, i_le, i_eq, ne_eq, Int32.reduceToInt, b2_0, b2_1, decide_eq_true_eq, decide_eq_false_iff_not, Bool.not_eq_true, Bool.not_eq_false, ew] at z; omega, by rw [hlen]; have z := c102; simp only [i_lt, i_le, i_eq, ne_eq, Int32.reduceToInt, b2_0, b2_1, decide_eq_true_eq, decide_eq_false_iff_not, Bool.not_eq_true, Bool.not_eq_false, en] at z; omega, by rw [hd2 (by have z := c102; simp only [i_lt, i_le, i_eq, ne_eq, Int32.reduceToInt, b2_0, b2_1, decide_eq_true_eq, decide_eq_false_iff_not, Bool.not_eq_true, Bool.not_eq_false, en] at z; omega), show nm_g (t (p + 16)) = 67 from by have z := c119; simp only [i_lt, i_le, i_eq, ne_eq, Int32.reduceToInt, b2_0, b2_1, decide_eq_true_eq, decide_eq_false_iff_not, Bool.not_eq_true, Bool.not_eq_false, gA] at z; omega, show nm_g (t (p + 17)) = 75 from by have z := c136; simp only [i_lt, i_le, i_eq, ne_eq, Int32.reduceToInt, b2_0, b2_1, decide_eq_true_eq, decide_eq_false_iff_not, Bool.not_eq_true, Bool.not_eq_false, gB] at z; omega]⟩⟩)
          | exact K _ (Or.inr ⟨rfl, fun hz => by have z := c150; simp only [i_lt, i_le, i_eq, ne_eq, Int32.reduceToInt, b2_0, b2_1, decide_eq_true_eq, decide_eq_false_iff_not, Bool.not_eq_true, Bool.not_eq_false, en] at z; have g := f3 (by have z := c96; simp only [i_lt, i_le, i_eq, ne_eq, Int32.reduceToInt, b2_0, b2_1, decide_eq_true_eq, decide_eq_false_iff_not, Bool.not_eq_true, Bool.not_eq_false, ew] at z; omega); rw [← hz, hlen] at g; omega⟩)
          | exact K _ (Or.inr ⟨rfl, hno3 (by have z := c96; simp only [i_lt, i_le, i_eq, ne_eq, Int32.reduceToInt, b2_0, b2_1, decide_eq_true_eq, decide_eq_false_iff_not, Bool.not_eq_true, Bool.not_eq_false, ew] at z; omega) (fun hz => by have z := c102; simp only [i_lt, i_le, i_eq, ne_eq, Int32.reduceToInt, b2_0, b2_1, decide_eq_true_eq, decide_eq_false_iff_not, Bool.not_eq_true, Bool.not_eq_false, en] at z; omega)⟩)
          | exact K _ (Or.inr ⟨rfl, hno3 (by have z := c96; simp only [i_lt, i_le, i_eq, ne_eq, Int32.reduceToInt, b2_0, b2_1, decide_eq_true_eq, decide_eq_false_iff_not, Bool.not_eq_true, Bool.not_eq_false, ew] at z; omega) (fun hz => by have z1 := c119; simp only [i_lt, i_le, i_eq, ne_eq, Int32.reduceToInt, b2_0, b2_1, decide_eq_true_eq, decide_eq_false_iff_not, Bool.not_eq_true, Bool.not_eq_false, gA] at z1; have y := hz.2; rw [hd2 (by omega)] at y; injection y with y1 y2; omega)⟩)
          | exact K _ (Or.inr ⟨rfl, hno3 (by have z := c96; simp only [i_lt, i_le, i_eq, ne_eq, Int32.reduceToInt, b2_0, b2_1, decide_eq_true_eq, decide_eq_false_iff_not, Bool.not_eq_true, Bool.not_eq_false, ew] at z; omega) (fun hz => by have z1 := c136; simp only [i_lt, i_le, i_eq, ne_eq, Int32.reduceToInt, b2_0, b2_1, decide_eq_true_eq, decide_eq_false_iff_not, Bool.not_eq_true, Bool.not_eq_false, gB] at z1; have y := hz.2; rw [hd2 (by omega)] at y; injection y with y1 y2; injection y2 with y3 y4; omega)⟩)
    · -- pc 99
      refine wq_l 100 d215_99 rfl rfl rfl rfl ?_
      refine wq_k 102 18 d215_100 (by decide) rfl ?_
      refine wq_b 143 105 d215_102 rfl (by decide) rfl (fun c102 => ?_) (fun c102 => ?_)
      · -- pc 143
        refine wq_k 144 0 d215_143 (by decide) rfl ?_
        refine wq_g 158 d215_144 (by decide) ?_
        refine wq_s 160 d215_158 rfl rfl (Nat.le_of_ble_eq_true rfl) rfl rfl ?_
        first
          | exact K _ (Or.inl ⟨rfl, Or.inl ⟨by have z := c96; simp only [i_lt, i_le, i_eq, ne_eq, Int32.reduceToInt, b2_0, b2_1, decide_eq_true_eq, decide_eq_false_iff_not, Bool.not_eq_true, Bool.not_eq_false, ew] at z; omega, by rw [hlen]; have z := c150; simp only [i_lt, i_le, i_eq, ne_eq, Int32.reduceToInt, b2_0, b2_1, decide_eq_true_eq, decide_eq_false_iff_not, Bool.not_eq_true, Bool.not_eq_false, en] at z; omega⟩⟩)
          | exact K _ (Or.inl ⟨rfl, Or.inr ⟨by have z := c96; simp only [i_lt, i_le, i_eq, ne_eq, Int32.reduceToInt, b2_0, b2_1, decide_eq_true_eq, decide_eq_false_iff_not, Bool.not_eq_true, Bool.not_eq_false, ew] at z; omega, by rw [hlen]; have z := c102; simp only [i_lt, i_le, i_eq, ne_eq, Int32.reduceToInt, b2_0, b2_1, decide_eq_true_eq, decide_eq_false_iff_not, Bool.not_eq_true, Bool.not_eq_false, en] at z; omega, by rw [hd2 (by have z := c102; simp only [i_lt, i_le, i_eq, ne_eq, Int32.reduceToInt, b2_0, b2_1, decide_eq_true_eq, decide_eq_false_iff_not, Bool.not_eq_true, Bool.not_eq_false, en] at z; omega), show nm_g (t (p + 16)) = 67 from by have z := c119; simp only [i_lt, i_le, i_eq, ne_eq, Int32.reduceToInt, b2_0, b2_1, decide_eq_true_eq, decide_eq_false_iff_not, Bool.not_eq_true, Bool.not_eq_false, gA] at z; omega, show nm_g (t (p + 17)) = 75 from by have z := c136; simp only [i_lt, i_le, i_eq, ne_eq, Int32.reduceToInt, b2_0, b2_1, decide_eq_true_eq, decide_eq_false_iff_not, Bool.not_eq_true, Bool.not_eq_false, gB] at z; omega]⟩⟩)
          | exact K _ (Or.inr ⟨rfl, fun hz => by have z := c150; simp only [i_lt, i_le, i_eq, ne_eq, Int32.reduceToInt, b2_0, b2_1, decide_eq_true_eq, decide_eq_false_iff_not, Bool.not_eq_true, Bool.not_eq_false, en] at z; have g := f3 (by have z := c96; simp only [i_lt, i_le, i_eq, ne_eq, Int32.reduceToInt, b2_0, b2_1, decide_eq_true_eq, decide_eq_false_iff_not, Bool.not_eq_true, Bool.not_eq_false, ew] at z; omega); rw [← hz, hlen] at g; omega⟩)
          | exact K _ (Or.inr ⟨rfl, hno3 (by have z := c96; simp only [i_lt, i_le, i_eq, ne_eq, Int32.reduceToInt, b2_0, b2_1, decide_eq_true_eq, decide_eq_false_iff_not, Bool.not_eq_true, Bool.not_eq_false, ew] at z; omega) (fun hz => by have z := c102; simp only [i_lt, i_le, i_eq, ne_eq, Int32.reduceToInt, b2_0, b2_1, decide_eq_true_eq, decide_eq_false_iff_not, Bool.not_eq_true, Bool.not_eq_false, en] at z; omega)⟩)
          | exact K _ (Or.inr ⟨rfl, hno3 (by have z := c96; simp only [i_lt, i_le, i_eq, ne_eq, Int32.reduceToInt, b2_0, b2_1, decide_eq_true_eq, decide_eq_false_iff_not, Bool.not_eq_true, Bool.not_eq_false, ew] at z; omega) (fun hz => by have z1 := c119; simp only [i_lt, i_le, i_eq, ne_eq, Int32.reduceToInt, b2_0, b2_1, decide_eq_true_eq, decide_eq_false_iff_not, Bool.not_eq_true, Bool.not_eq_false, gA] at z1; have y := hz.2; rw [hd2 (by omega)] at y; injection y with y1 y2; omega)⟩)
          | exact K _ (Or.inr ⟨rfl, hno3 (by have z := c96; simp only [i_lt, i_le, i_eq, ne_eq, Int32.reduceToInt, b2_0, b2_1, decide_eq_true_eq, decide_eq_false_iff_not, Bool.not_eq_true, Bool.not_eq_false, ew] at z; omega) (fun hz => by have z1 := c136; simp only [i_lt, i_le, i_eq, ne_eq, Int32.reduceToInt, b2_0, b2_1, decide_eq_true_eq, decide_eq_false_iff_not, Bool.not_eq_true, Bool.not_eq_false, gB] at z1; have y := hz.2; rw [hd2 (by omega)] at y; injection y with y1 y2; injection y2 with y3 y4; omega)⟩)
      · -- pc 105
        have h18 : e - p = 18 := by have z := c102; simp only [i_lt, i_le, i_eq, ne_eq, Int32.reduceToInt, b2_0, b2_1, decide_eq_true_eq, decide_eq_false_iff_not, Bool.not_eq_true, Bool.not_eq_false, en] at z; omega
        refine wq_l 106 d215_105 rfl rfl rfl rfl ?_
        refine wq_gr (ci := 10) (j := 0) (q := 43) 109 d215_106 rfl rfl rfl rfl ?_
        refine wq_l 110 d215_109 rfl rfl rfl rfl ?_
        refine wq_k 112 16 d215_110 (by decide) rfl ?_
        refine wq_a 113 d215_112 rfl rfl ?_
        rw [show nI p + 16 = nI (p + 16) from nI_add p 16]
        refine wq_al 114 d215_113 rfl rfl rfl (vp_in_iff.mpr (by simp only [i_lt, i_le, i_eq, ne_eq, Int32.reduceToInt, b2_0, b2_1, decide_eq_true_eq, decide_eq_false_iff_not, Bool.not_eq_true, Bool.not_eq_false, eA] at * <;> omega)) ?_
        rw [nI_clamp (by omega), hcA]
        refine wq_vs 117 [_] d215_114 rfl rfl m211 rfl (Nat.le_of_ble_eq_true rfl) rfl (sp211 ?_)
        rw [rx_gn tA]
        refine wq_k 119 67 d215_117 (by decide) rfl ?_
        refine wq_b 143 122 d215_119 rfl (by decide) rfl (fun c119 => ?_) (fun c119 => ?_)
        · -- pc 143
          refine wq_k 144 0 d215_143 (by decide) rfl ?_
          refine wq_g 158 d215_144 (by decide) ?_
          refine wq_s 160 d215_158 rfl rfl (Nat.le_of_ble_eq_true rfl) rfl rfl ?_
          first
            | exact K _ (Or.inl ⟨rfl, Or.inl ⟨by have z := c96; simp only [i_lt, i_le, i_eq, ne_eq, Int32.reduceToInt, b2_0, b2_1, decide_eq_true_eq, decide_eq_false_iff_not, Bool.not_eq_true, Bool.not_eq_false, ew] at z; omega, by rw [hlen]; have z := c150; simp only [i_lt, i_le, i_eq, ne_eq, Int32.reduceToInt, b2_0, b2_1, decide_eq_true_eq, decide_eq_false_iff_not, Bool.not_eq_true, Bool.not_eq_false, en] at z; omega⟩⟩)
            | exact K _ (Or.inl ⟨rfl, Or.inr ⟨by have z := c96; simp only [i_lt, i_le, i_eq, ne_eq, Int32.reduceToInt, b2_0, b2_1, decide_eq_true_eq, decide_eq_false_iff_not, Bool.not_eq_true, Bool.not_eq_false, ew] at z; omega, by rw [hlen]; have z := c102; simp only [i_lt, i_le, i_eq, ne_eq, Int32.reduceToInt, b2_0, b2_1, decide_eq_true_eq, decide_eq_false_iff_not, Bool.not_eq_true, Bool.not_eq_false, en] at z; omega, by rw [hd2 (by have z := c102; simp only [i_lt, i_le, i_eq, ne_eq, Int32.reduceToInt, b2_0, b2_1, decide_eq_true_eq, decide_eq_false_iff_not, Bool.not_eq_true, Bool.not_eq_false, en] at z; omega), show nm_g (t (p + 16)) = 67 from by have z := c119; simp only [i_lt, i_le, i_eq, ne_eq, Int32.reduceToInt, b2_0, b2_1, decide_eq_true_eq, decide_eq_false_iff_not, Bool.not_eq_true, Bool.not_eq_false, gA] at z; omega, show nm_g (t (p + 17)) = 75 from by have z := c136; simp only [i_lt, i_le, i_eq, ne_eq, Int32.reduceToInt, b2_0, b2_1, decide_eq_true_eq, decide_eq_false_iff_not, Bool.not_eq_true, Bool.not_eq_false, gB] at z; omega]⟩⟩)
            | exact K _ (Or.inr ⟨rfl, fun hz => by have z := c150; simp only [i_lt, i_le, i_eq, ne_eq, Int32.reduceToInt, b2_0, b2_1, decide_eq_true_eq, decide_eq_false_iff_not, Bool.not_eq_true, Bool.not_eq_false, en] at z; have g := f3 (by have z := c96; simp only [i_lt, i_le, i_eq, ne_eq, Int32.reduceToInt, b2_0, b2_1, decide_eq_true_eq, decide_eq_false_iff_not, Bool.not_eq_true, Bool.not_eq_false, ew] at z; omega); rw [← hz, hlen] at g; omega⟩)
            | exact K _ (Or.inr ⟨rfl, hno3 (by have z := c96; simp only [i_lt, i_le, i_eq, ne_eq, Int32.reduceToInt, b2_0, b2_1, decide_eq_true_eq, decide_eq_false_iff_not, Bool.not_eq_true, Bool.not_eq_false, ew] at z; omega) (fun hz => by have z := c102; simp only [i_lt, i_le, i_eq, ne_eq, Int32.reduceToInt, b2_0, b2_1, decide_eq_true_eq, decide_eq_false_iff_not, Bool.not_eq_true, Bool.not_eq_false, en] at z; omega)⟩)
            | exact K _ (Or.inr ⟨rfl, hno3 (by have z := c96; simp only [i_lt, i_le, i_eq, ne_eq, Int32.reduceToInt, b2_0, b2_1, decide_eq_true_eq, decide_eq_false_iff_not, Bool.not_eq_true, Bool.not_eq_false, ew] at z; omega) (fun hz => by have z1 := c119; simp only [i_lt, i_le, i_eq, ne_eq, Int32.reduceToInt, b2_0, b2_1, decide_eq_true_eq, decide_eq_false_iff_not, Bool.not_eq_true, Bool.not_eq_false, gA] at z1; have y := hz.2; rw [hd2 (by omega)] at y; injection y with y1 y2; omega)⟩)
            | exact K _ (Or.inr ⟨rfl, hno3 (by have z := c96; simp only [i_lt, i_le, i_eq, ne_eq, Int32.reduceToInt, b2_0, b2_1, decide_eq_true_eq, decide_eq_false_iff_not, Bool.not_eq_true, Bool.not_eq_false, ew] at z; omega) (fun hz => by have z1 := c136; simp only [i_lt, i_le, i_eq, ne_eq, Int32.reduceToInt, b2_0, b2_1, decide_eq_true_eq, decide_eq_false_iff_not, Bool.not_eq_true, Bool.not_eq_false, gB] at z1; have y := hz.2; rw [hd2 (by omega)] at y; injection y with y1 y2; injection y2 with y3 y4; omega)⟩)
        · -- pc 122
          refine wq_l 123 d215_122 rfl rfl rfl rfl ?_
          refine wq_gr (ci := 10) (j := 0) (q := 43) 126 d215_123 rfl rfl rfl rfl ?_
          refine wq_l 127 d215_126 rfl rfl rfl rfl ?_
          refine wq_k 129 17 d215_127 (by decide) rfl ?_
          refine wq_a 130 d215_129 rfl rfl ?_
          rw [show nI p + 17 = nI (p + 17) from nI_add p 17]
          refine wq_al 131 d215_130 rfl rfl rfl (vp_in_iff.mpr (by simp only [i_lt, i_le, i_eq, ne_eq, Int32.reduceToInt, b2_0, b2_1, decide_eq_true_eq, decide_eq_false_iff_not, Bool.not_eq_true, Bool.not_eq_false, eB] at * <;> omega)) ?_
          rw [nI_clamp (by omega), hcB]
          refine wq_vs 134 [_] d215_131 rfl rfl m211 rfl (Nat.le_of_ble_eq_true rfl) rfl (sp211 ?_)
          rw [rx_gn tB]
          refine wq_k 136 75 d215_134 (by decide) rfl ?_
          refine wq_b 143 139 d215_136 rfl (by decide) rfl (fun c136 => ?_) (fun c136 => ?_)
          · -- pc 143
            refine wq_k 144 0 d215_143 (by decide) rfl ?_
            refine wq_g 158 d215_144 (by decide) ?_
            refine wq_s 160 d215_158 rfl rfl (Nat.le_of_ble_eq_true rfl) rfl rfl ?_
            first
              | exact K _ (Or.inl ⟨rfl, Or.inl ⟨by have z := c96; simp only [i_lt, i_le, i_eq, ne_eq, Int32.reduceToInt, b2_0, b2_1, decide_eq_true_eq, decide_eq_false_iff_not, Bool.not_eq_true, Bool.not_eq_false, ew] at z; omega, by rw [hlen]; have z := c150; simp only [i_lt, i_le, i_eq, ne_eq, Int32.reduceToInt, b2_0, b2_1, decide_eq_true_eq, decide_eq_false_iff_not, Bool.not_eq_true, Bool.not_eq_false, en] at z; omega⟩⟩)
              | exact K _ (Or.inl ⟨rfl, Or.inr ⟨by have z := c96; simp only [i_lt, i_le, i_eq, ne_eq, Int32.reduceToInt, b2_0, b2_1, decide_eq_true_eq, decide_eq_false_iff_not, Bool.not_eq_true, Bool.not_eq_false, ew] at z; omega, by rw [hlen]; have z := c102; simp only [i_lt, i_le, i_eq, ne_eq, Int32.reduceToInt, b2_0, b2_1, decide_eq_true_eq, decide_eq_false_iff_not, Bool.not_eq_true, Bool.not_eq_false, en] at z; omega, by rw [hd2 (by have z := c102; simp only [i_lt, i_le, i_eq, ne_eq, Int32.reduceToInt, b2_0, b2_1, decide_eq_true_eq, decide_eq_false_iff_not, Bool.not_eq_true, Bool.not_eq_false, en] at z; omega), show nm_g (t (p + 16)) = 67 from by have z := c119; simp only [i_lt, i_le, i_eq, ne_eq, Int32.reduceToInt, b2_0, b2_1, decide_eq_true_eq, decide_eq_false_iff_not, Bool.not_eq_true, Bool.not_eq_false, gA] at z; omega, show nm_g (t (p + 17)) = 75 from by have z := c136; simp only [i_lt, i_le, i_eq, ne_eq, Int32.reduceToInt, b2_0, b2_1, decide_eq_true_eq, decide_eq_false_iff_not, Bool.not_eq_true, Bool.not_eq_false, gB] at z; omega]⟩⟩)
              | exact K _ (Or.inr ⟨rfl, fun hz => by have z := c150; simp only [i_lt, i_le, i_eq, ne_eq, Int32.reduceToInt, b2_0, b2_1, decide_eq_true_eq, decide_eq_false_iff_not, Bool.not_eq_true, Bool.not_eq_false, en] at z; have g := f3 (by have z := c96; simp only [i_lt, i_le, i_eq, ne_eq, Int32.reduceToInt, b2_0, b2_1, decide_eq_true_eq, decide_eq_false_iff_not, Bool.not_eq_true, Bool.not_eq_false, ew] at z; omega); rw [← hz, hlen] at g; omega⟩)
              | exact K _ (Or.inr ⟨rfl, hno3 (by have z := c96; simp only [i_lt, i_le, i_eq, ne_eq, Int32.reduceToInt, b2_0, b2_1, decide_eq_true_eq, decide_eq_false_iff_not, Bool.not_eq_true, Bool.not_eq_false, ew] at z; omega) (fun hz => by have z := c102; simp only [i_lt, i_le, i_eq, ne_eq, Int32.reduceToInt, b2_0, b2_1, decide_eq_true_eq, decide_eq_false_iff_not, Bool.not_eq_true, Bool.not_eq_false, en] at z; omega)⟩)
              | exact K _ (Or.inr ⟨rfl, hno3 (by have z := c96; simp only [i_lt, i_le, i_eq, ne_eq, Int32.reduceToInt, b2_0, b2_1, decide_eq_true_eq, decide_eq_false_iff_not, Bool.not_eq_true, Bool.not_eq_false, ew] at z; omega) (fun hz => by have z1 := c119; simp only [i_lt, i_le, i_eq, ne_eq, Int32.reduceToInt, b2_0, b2_1, decide_eq_true_eq, decide_eq_false_iff_not, Bool.not_eq_true, Bool.not_eq_false, gA] at z1; have y := hz.2; rw [hd2 (by omega)] at y; injection y with y1 y2; omega)⟩)
              | exact K _ (Or.inr ⟨rfl, hno3 (by have z := c96; simp only [i_lt, i_le, i_eq, ne_eq, Int32.reduceToInt, b2_0, b2_1, decide_eq_true_eq, decide_eq_false_iff_not, Bool.not_eq_true, Bool.not_eq_false, ew] at z; omega) (fun hz => by have z1 := c136; simp only [i_lt, i_le, i_eq, ne_eq, Int32.reduceToInt, b2_0, b2_1, decide_eq_true_eq, decide_eq_false_iff_not, Bool.not_eq_true, Bool.not_eq_false, gB] at z1; have y := hz.2; rw [hd2 (by omega)] at y; injection y with y1 y2; injection y2 with y3 y4; omega)⟩)
          · -- pc 139
            refine wq_k 140 1 d215_139 (by decide) rfl ?_
            refine wq_g 158 d215_140 (by decide) ?_
            refine wq_s 160 d215_158 rfl rfl (Nat.le_of_ble_eq_true rfl) rfl rfl ?_
            first
              | exact K _ (Or.inl ⟨rfl, Or.inl ⟨by have z := c96; simp only [i_lt, i_le, i_eq, ne_eq, Int32.reduceToInt, b2_0, b2_1, decide_eq_true_eq, decide_eq_false_iff_not, Bool.not_eq_true, Bool.not_eq_false, ew] at z; omega, by rw [hlen]; have z := c150; simp only [i_lt, i_le, i_eq, ne_eq, Int32.reduceToInt, b2_0, b2_1, decide_eq_true_eq, decide_eq_false_iff_not, Bool.not_eq_true, Bool.not_eq_false, en] at z; omega⟩⟩)
              | exact K _ (Or.inl ⟨rfl, Or.inr ⟨by have z := c96; simp only [i_lt, i_le, i_eq, ne_eq, Int32.reduceToInt, b2_0, b2_1, decide_eq_true_eq, decide_eq_false_iff_not, Bool.not_eq_true, Bool.not_eq_false, ew] at z; omega, by rw [hlen]; have z := c102; simp only [i_lt, i_le, i_eq, ne_eq, Int32.reduceToInt, b2_0, b2_1, decide_eq_true_eq, decide_eq_false_iff_not, Bool.not_eq_true, Bool.not_eq_false, en] at z; omega, by rw [hd2 (by have z := c102; simp only [i_lt, i_le, i_eq, ne_eq, Int32.reduceToInt, b2_0, b2_1, decide_eq_true_eq, decide_eq_false_iff_not, Bool.not_eq_true, Bool.not_eq_false, en] at z; omega), show nm_g (t (p + 16)) = 67 from by have z := c119; simp only [i_lt, i_le, i_eq, ne_eq, Int32.reduceToInt, b2_0, b2_1, decide_eq_true_eq, decide_eq_false_iff_not, Bool.not_eq_true, Bool.not_eq_false, gA] at z; omega, show nm_g (t (p + 17)) = 75 from by have z := c136; simp only [i_lt, i_le, i_eq, ne_eq, Int32.reduceToInt, b2_0, b2_1, decide_eq_true_eq, decide_eq_false_iff_not, Bool.not_eq_true, Bool.not_eq_false, gB] at z; omega]⟩⟩)
              | exact K _ (Or.inr ⟨rfl, fun hz => by have z := c150; simp only [i_lt, i_le, i_eq, ne_eq, Int32.reduceToInt, b2_0, b2_1, decide_eq_true_eq, decide_eq_false_iff_not, Bool.not_eq_true, Bool.not_eq_false, en] at z; have g := f3 (by have z := c96; simp only [i_lt, i_le, i_eq, ne_eq, Int32.reduceToInt, b2_0, b2_1, decide_eq_true_eq, decide_eq_false_iff_not, Bool.not_eq_true, Bool.not_eq_false, ew] at z; omega); rw [← hz, hlen] at g; omega⟩)
              | exact K _ (Or.inr ⟨rfl, hno3 (by have z := c96; simp only [i_lt, i_le, i_eq, ne_eq, Int32.reduceToInt, b2_0, b2_1, decide_eq_true_eq, decide_eq_false_iff_not, Bool.not_eq_true, Bool.not_eq_false, ew] at z; omega) (fun hz => by have z := c102; simp only [i_lt, i_le, i_eq, ne_eq, Int32.reduceToInt, b2_0, b2_1, decide_eq_true_eq, decide_eq_false_iff_not, Bool.not_eq_true, Bool.not_eq_false, en] at z; omega)⟩)
              | exact K _ (Or.inr ⟨rfl, hno3 (by have z := c96; simp only [i_lt, i_le, i_eq, ne_eq, Int32.reduceToInt, b2_0, b2_1, decide_eq_true_eq, decide_eq_false_iff_not, Bool.not_eq_true, Bool.not_eq_false, ew] at z; omega) (fun hz => by have z1 := c119; simp only [i_lt, i_le, i_eq, ne_eq, Int32.reduceToInt, b2_0, b2_1, decide_eq_true_eq, decide_eq_false_iff_not, Bool.not_eq_true, Bool.not_eq_false, gA] at z1; have y := hz.2; rw [hd2 (by omega)] at y; injection y with y1 y2; omega)⟩)
              | exact K _ (Or.inr ⟨rfl, hno3 (by have z := c96; simp only [i_lt, i_le, i_eq, ne_eq, Int32.reduceToInt, b2_0, b2_1, decide_eq_true_eq, decide_eq_false_iff_not, Bool.not_eq_true, Bool.not_eq_false, ew] at z; omega) (fun hz => by have z1 := c136; simp only [i_lt, i_le, i_eq, ne_eq, Int32.reduceToInt, b2_0, b2_1, decide_eq_true_eq, decide_eq_false_iff_not, Bool.not_eq_true, Bool.not_eq_false, gB] at z1; have y := hz.2; rw [hd2 (by omega)] at y; injection y with y1 y2; injection y2 with y3 y4; omega)⟩)
