theorem d148_0 : decode prog_7_method_17_code 0 = .ok (.iload_n 1, 1) := by decide +kernel
theorem d148_1 : decode prog_7_method_17_code 1 = .ok (.iconst 1, 1) := by decide +kernel
theorem d148_2 : decode prog_7_method_17_code 2 = .ok (.iadd, 1) := by decide +kernel
theorem d148_3 : decode prog_7_method_17_code 3 = .ok (.istore_n 2, 1) := by decide +kernel
theorem d148_4 : decode prog_7_method_17_code 4 = .ok (.aload_n 0, 1) := by decide +kernel
theorem d148_5 : decode prog_7_method_17_code 5 = .ok (.getfield 9, 3) := by decide +kernel
theorem d148_8 : decode prog_7_method_17_code 8 = .ok (.iload_n 1, 1) := by decide +kernel
theorem d148_9 : decode prog_7_method_17_code 9 = .ok (.invokevirtual 75, 3) := by decide +kernel
theorem d148_12 : decode prog_7_method_17_code 12 = .ok (.istore_n 3, 1) := by decide +kernel
theorem d148_13 : decode prog_7_method_17_code 13 = .ok (.iload_n 2, 1) := by decide +kernel
theorem d148_14 : decode prog_7_method_17_code 14 = .ok (.iload_n 3, 1) := by decide +kernel
theorem d148_15 : decode prog_7_method_17_code 15 = .ok (.if_icmp .ge 22, 3) := by decide +kernel
theorem d148_18 : decode prog_7_method_17_code 18 = .ok (.aload_n 0, 1) := by decide +kernel
theorem d148_19 : decode prog_7_method_17_code 19 = .ok (.getfield 9, 3) := by decide +kernel
theorem d148_22 : decode prog_7_method_17_code 22 = .ok (.iload_n 2, 1) := by decide +kernel
theorem d148_23 : decode prog_7_method_17_code 23 = .ok (.invokevirtual 95, 3) := by decide +kernel
theorem d148_26 : decode prog_7_method_17_code 26 = .ok (.bipush 6, 2) := by decide +kernel
theorem d148_28 : decode prog_7_method_17_code 28 = .ok (.if_icmp .ne 9, 3) := by decide +kernel
theorem d148_31 : decode prog_7_method_17_code 31 = .ok (.iinc 2 1, 3) := by decide +kernel
theorem d148_34 : decode prog_7_method_17_code 34 = .ok (.goto (-21), 3) := by decide +kernel
theorem d148_37 : decode prog_7_method_17_code 37 = .ok (.iload_n 2, 1) := by decide +kernel
theorem d148_38 : decode prog_7_method_17_code 38 = .ok (.iload_n 1, 1) := by decide +kernel
theorem d148_39 : decode prog_7_method_17_code 39 = .ok (.isub, 1) := by decide +kernel
theorem d148_40 : decode prog_7_method_17_code 40 = .ok (.iconst 1, 1) := by decide +kernel
theorem d148_41 : decode prog_7_method_17_code 41 = .ok (.isub, 1) := by decide +kernel
theorem d148_42 : decode prog_7_method_17_code 42 = .ok (.istore 4, 2) := by decide +kernel
theorem d148_44 : decode prog_7_method_17_code 44 = .ok (.iload_n 2, 1) := by decide +kernel
theorem d148_45 : decode prog_7_method_17_code 45 = .ok (.istore 5, 2) := by decide +kernel
theorem d148_47 : decode prog_7_method_17_code 47 = .ok (.aload_n 0, 1) := by decide +kernel
theorem d148_48 : decode prog_7_method_17_code 48 = .ok (.getfield 9, 3) := by decide +kernel
theorem d148_51 : decode prog_7_method_17_code 51 = .ok (.iload_n 2, 1) := by decide +kernel
theorem d148_52 : decode prog_7_method_17_code 52 = .ok (.invokevirtual 95, 3) := by decide +kernel
theorem d148_55 : decode prog_7_method_17_code 55 = .ok (.bipush 7, 2) := by decide +kernel
theorem d148_57 : decode prog_7_method_17_code 57 = .ok (.if_icmp .ne 9, 3) := by decide +kernel
theorem d148_60 : decode prog_7_method_17_code 60 = .ok (.iinc 5 1, 3) := by decide +kernel
theorem d148_63 : decode prog_7_method_17_code 63 = .ok (.goto 5, 3) := by decide +kernel
theorem d148_66 : decode prog_7_method_17_code 66 = .ok (.iconst (-1), 1) := by decide +kernel
theorem d148_67 : decode prog_7_method_17_code 67 = .ok (.istore_n 2, 1) := by decide +kernel
theorem d148_68 : decode prog_7_method_17_code 68 = .ok (.aload_n 0, 1) := by decide +kernel
theorem d148_69 : decode prog_7_method_17_code 69 = .ok (.getfield 9, 3) := by decide +kernel
theorem d148_72 : decode prog_7_method_17_code 72 = .ok (.iload 5, 2) := by decide +kernel
theorem d148_74 : decode prog_7_method_17_code 74 = .ok (.invokevirtual 75, 3) := by decide +kernel
theorem d148_77 : decode prog_7_method_17_code 77 = .ok (.istore 6, 2) := by decide +kernel
theorem d148_79 : decode prog_7_method_17_code 79 = .ok (.aload_n 0, 1) := by decide +kernel
theorem d148_80 : decode prog_7_method_17_code 80 = .ok (.getfield 9, 3) := by decide +kernel
theorem d148_83 : decode prog_7_method_17_code 83 = .ok (.aload_n 0, 1) := by decide +kernel
theorem d148_84 : decode prog_7_method_17_code 84 = .ok (.getfield 9, 3) := by decide +kernel
theorem d148_87 : decode prog_7_method_17_code 87 = .ok (.iload_n 1, 1) := by decide +kernel
theorem d148_88 : decode prog_7_method_17_code 88 = .ok (.invokevirtual 86, 3) := by decide +kernel
theorem d148_91 : decode prog_7_method_17_code 91 = .ok (.invokevirtual 110, 3) := by decide +kernel
theorem d148_94 : decode prog_7_method_17_code 94 = .ok (.ifCond .eq 20, 3) := by decide +kernel
theorem d148_97 : decode prog_7_method_17_code 97 = .ok (.aload_n 0, 1) := by decide +kernel
theorem d148_98 : decode prog_7_method_17_code 98 = .ok (.getfield 9, 3) := by decide +kernel
theorem d148_101 : decode prog_7_method_17_code 101 = .ok (.iload 5, 2) := by decide +kernel
theorem d148_103 : decode prog_7_method_17_code 103 = .ok (.invokevirtual 95, 3) := by decide +kernel
theorem d148_106 : decode prog_7_method_17_code 106 = .ok (.bipush 8, 2) := by decide +kernel
theorem d148_108 : decode prog_7_method_17_code 108 = .ok (.if_icmp .eq 6, 3) := by decide +kernel
theorem d148_111 : decode prog_7_method_17_code 111 = .ok (.bipush 43, 2) := by decide +kernel
theorem d148_113 : decode prog_7_method_17_code 113 = .ok (.ireturn, 1) := by decide +kernel
theorem d148_114 : decode prog_7_method_17_code 114 = .ok (.iload_n 2, 1) := by decide +kernel
theorem d148_115 : decode prog_7_method_17_code 115 = .ok (.iconst (-1), 1) := by decide +kernel
theorem d148_116 : decode prog_7_method_17_code 116 = .ok (.if_icmp .eq 16, 3) := by decide +kernel
theorem d148_119 : decode prog_7_method_17_code 119 = .ok (.aload_n 0, 1) := by decide +kernel
theorem d148_120 : decode prog_7_method_17_code 120 = .ok (.iload_n 2, 1) := by decide +kernel
theorem d148_121 : decode prog_7_method_17_code 121 = .ok (.iload 5, 2) := by decide +kernel
theorem d148_123 : decode prog_7_method_17_code 123 = .ok (.invokevirtual 211, 3) := by decide +kernel
theorem d148_126 : decode prog_7_method_17_code 126 = .ok (.ifCond .ne 6, 3) := by decide +kernel
theorem d148_129 : decode prog_7_method_17_code 129 = .ok (.bipush 15, 2) := by decide +kernel
theorem d148_131 : decode prog_7_method_17_code 131 = .ok (.ireturn, 1) := by decide +kernel
theorem d148_132 : decode prog_7_method_17_code 132 = .ok (.iload 6, 2) := by decide +kernel
theorem d148_134 : decode prog_7_method_17_code 134 = .ok (.iload_n 3, 1) := by decide +kernel
theorem d148_135 : decode prog_7_method_17_code 135 = .ok (.if_icmp .ge 25, 3) := by decide +kernel
theorem d148_138 : decode prog_7_method_17_code 138 = .ok (.aload_n 0, 1) := by decide +kernel
theorem d148_139 : decode prog_7_method_17_code 139 = .ok (.iload_n 2, 1) := by decide +kernel
theorem d148_140 : decode prog_7_method_17_code 140 = .ok (.invokevirtual 215, 3) := by decide +kernel
theorem d148_143 : decode prog_7_method_17_code 143 = .ok (.ifCond .ne 14, 3) := by decide +kernel
theorem d148_146 : decode prog_7_method_17_code 146 = .ok (.aload_n 0, 1) := by decide +kernel
theorem d148_147 : decode prog_7_method_17_code 147 = .ok (.iload 6, 2) := by decide +kernel
theorem d148_149 : decode prog_7_method_17_code 149 = .ok (.iload 5, 2) := by decide +kernel
theorem d148_151 : decode prog_7_method_17_code 151 = .ok (.invokevirtual 218, 3) := by decide +kernel
theorem d148_154 : decode prog_7_method_17_code 154 = .ok (.ifCond .ne 6, 3) := by decide +kernel
theorem d148_157 : decode prog_7_method_17_code 157 = .ok (.bipush 18, 2) := by decide +kernel
theorem d148_159 : decode prog_7_method_17_code 159 = .ok (.ireturn, 1) := by decide +kernel
theorem d148_160 : decode prog_7_method_17_code 160 = .ok (.aload_n 0, 1) := by decide +kernel
theorem d148_161 : decode prog_7_method_17_code 161 = .ok (.iload_n 1, 1) := by decide +kernel
theorem d148_162 : decode prog_7_method_17_code 162 = .ok (.iload 4, 2) := by decide +kernel
theorem d148_164 : decode prog_7_method_17_code 164 = .ok (.iload_n 2, 1) := by decide +kernel
theorem d148_165 : decode prog_7_method_17_code 165 = .ok (.iload 5, 2) := by decide +kernel
theorem d148_167 : decode prog_7_method_17_code 167 = .ok (.invokevirtual 221, 3) := by decide +kernel
theorem d148_170 : decode prog_7_method_17_code 170 = .ok (.aload_n 0, 1) := by decide +kernel
theorem d148_171 : decode prog_7_method_17_code 171 = .ok (.getfield 19, 3) := by decide +kernel
theorem d148_174 : decode prog_7_method_17_code 174 = .ok (.aload_n 0, 1) := by decide +kernel
theorem d148_175 : decode prog_7_method_17_code 175 = .ok (.getfield 19, 3) := by decide +kernel
theorem d148_178 : decode prog_7_method_17_code 178 = .ok (.invokevirtual 129, 3) := by decide +kernel
theorem d148_181 : decode prog_7_method_17_code 181 = .ok (.invokevirtual 222, 3) := by decide +kernel
theorem d148_184 : decode prog_7_method_17_code 184 = .ok (.sipush 4096, 3) := by decide +kernel
theorem d148_187 : decode prog_7_method_17_code 187 = .ok (.if_icmp .le 8, 3) := by decide +kernel
theorem d148_190 : decode prog_7_method_17_code 190 = .ok (.bipush 19, 2) := by decide +kernel
theorem d148_192 : decode prog_7_method_17_code 192 = .ok (.goto 4, 3) := by decide +kernel
theorem d148_195 : decode prog_7_method_17_code 195 = .ok (.iconst 0, 1) := by decide +kernel
theorem d148_196 : decode prog_7_method_17_code 196 = .ok (.ireturn, 1) := by decide +kernel
theorem m148 : pm_m 148 = some (⟨"TypeRules$Rules", "declarationFault", "(I)I"⟩, prog_7_method_17_code, 7, (some FieldType.int), 7, 1, 8) := rfl
/-! A DECLARATION's rule, in the class -/
theorem rl_Aj0 {s : Nat} {t at_ : Int32} {z m i : Nat} {y : rl_B} {r : List rl_B} {T : (Nat → Int32) × (Nat → Int32) × (Nat → Int32)} : rl_Aj s t at_ z m i 0 y r T = (y :: r, T) := by
  unfold rl_Aj rl_yj rl_cj rl_sj
  have e1 : (if at_ = -1 then y.2.2.2.1 + 0 * z else y.2.2.2.1) = y.2.2.2.1 := by
    rw [Nat.zero_mul, Nat.add_zero, ite_self]
  have e2 : y.2.2.2.2.take (m - 0) ++ rl_settle s t at_ y.2.2.2.1 z 0 (y.2.2.2.2.drop (m - 0)) = y.2.2.2.2 := List.take_append_drop _ _
  have e3 : (fun c => if i < c ∧ c ≤ i + 0 then nI (if at_ = -1 then y.2.2.2.1 + (c - i - 1) * z else rl_img at_) else T.2.1 c) = T.2.1 := by
    funext c
    rw [if_neg (by omega)]
  rw [e1, e2, e3]
theorem rl_Ajm {s : Nat} {t at_ : Int32} {z m i : Nat} {y : rl_B} {r : List rl_B} {T : (Nat → Int32) × (Nat → Int32) × (Nat → Int32)} {hp : Bool} (hh : hp = true ↔ at_ ≠ -1) : rl_Aj s t at_ z m i m y r T = ((y.1, y.2.1, y.2.2.1, (if hp then y.2.2.2.1 else y.2.2.2.1 + m * z), rl_settle s t at_ y.2.2.2.1 z m y.2.2.2.2) :: r, T.1, (fun c => if i < c ∧ c ≤ i + m then nI (if hp then rl_img at_ else y.2.2.2.1 + (c - i - 1) * z) else T.2.1 c), T.2.2) := by
  unfold rl_Aj rl_yj rl_cj rl_sj
  rw [Nat.sub_self, List.take_zero, List.drop_zero, List.nil_append]
  cases hp with
  | true =>
    have n := hh.mp rfl
    simp only [if_neg n, if_true]
  | false =>
    have n : at_ = -1 := Classical.not_not.mp (fun z => by have := hh.mpr z; cases this)
    simp only [if_pos n, if_false, Bool.false_eq_true]
theorem cr153 {d : Nat} {l : List pg_N} {NN nx : Nat} {σ0 σ : pm_S} {Q : Option Value → pm_S → Prop} {p y m i part sc : Nat} {at_ pc : Int32} {yb : rl_B} {r : List rl_B} {T : (Nat → Int32) × (Nat → Int32) × (Nat → Int32)} (hG : lg_G l NN) (h : cr_I l NN σ0 σ nx (yb :: r, T)) (hm : m ≤ yb.2.2.2.2.length) (hu : ∀ (k : Nat) (v : rl_V), k < m → yb.2.2.2.2[k]? = some v → v.2.1 = 3 ∧ v.2.2.2.2.1 = at_) (hus : ∀ (k : Nat) (v : rl_V), k < m → yb.2.2.2.2[k]? = some v → v.2.2.2.1 = part) (hpl : (at_ = -1 ∧ pc = -1) ∨ (pc = nI p ∧ p < l.length ∧ rl_k l p = 7 ∧ rl_v l p = at_ ∧ at_ ≠ -1)) (hy : y < l.length) (hk : rl_k l y = 8 ∨ rl_k l y = 9 ∨ rl_k l y = 10) (h9 : rl_k l y = 9 → y + 3 < l.length ∧ 1 ≤ rl_many l y ∧ rl_many l y ≤ 256) (h10 : rl_k l y = 10 → (rl_inst (yb :: r) (rl_v l y)).isSome = true) (hx : rl_k l y = 10 → 0 ≤ (rl_v l y).toInt ∧ (rl_v l y).toInt < NN) (hf : cb_nm r yb.2.1 = none) (hkd : ∀ q, cb_kd (yb :: r) q < 2 ^ 30) (hnode : i + m < l.length) (hi : i < l.length) (hn : i < nx) (hsc : (rl_up l i).head? = some sc) (hsl : sc < l.length) (hpart : rl_v l sc = nI part) (hp2 : part ≤ 2) (hQ : ∀ σ', cr_I l NN σ0 σ' nx (rl_Aj (rl_k l y - 8) (rl_dt l (yb :: r, T) y) at_ (rl_zz l (yb :: r) y) m i m yb r T) → Q none σ') : pm_call pm_Y0 (d + 4) 153 [.ref 7, .int (nI i), .int (nI m), .int pc, .int (nI y)] σ Q := by
  have hB : (yb :: r, T).1 ≠ [] := by intro w; cases w
  have ek : nI (rl_k l y) = nI (8 + (rl_k l y - 8)) := by congr 1; omega
  have hF := h.2.2.2.2.2.1.1
  have hF : (cv_L (yb :: r)).length ≤ 4128 := hF
  have lF : (cv_L (yb :: r)).length = (cv_L r).length + yb.2.2.2.2.length := by
    show (cv_L r ++ yb.2.2.2.2.reverse.map _).length = _
    rw [List.length_append, List.length_map, List.length_reverse]
  have key : ∀ w10 : Value, pm_WP pm_Y0 (pm_call pm_Y0 (d + 3)) 7 prog_7_method_22_code none Q 75 [.ref 7, .int (nI i), .int (nI m), .int pc, .int (nI y), .int (nI (8 + (rl_k l y - 8))), .int (rl_dt l (yb :: r, T) y), .int (b2 (decide (part = 1))), .int (nI ((cv_L r).length + yb.2.2.2.2.length - m)), .int (nI 0), w10] [] σ := fun w10 => cr153l (z := rl_zz l (yb :: r) y) hG hm (by omega) hu hus (by omega) hpl hy hk h9 h10 hx rfl hf hkd hnode m 0 σ w10 (by omega) (by rw [rl_Aj0]; exact h) hQ
  refine wq_m m153 (Nat.le_of_ble_eq_true rfl) (by decide) rfl ?_
  refine wq_l 1 d153_0 rfl rfl rfl rfl ?_
  refine wq_gr (ci := 7) (j := 0) (q := 3) 4 d153_1 rfl rfl rfl rfl ?_
  refine wq_l 6 d153_4 rfl rfl rfl rfl ?_
  refine wq_v 9 [_] d153_6 rfl rfl m65 rfl rfl (Nat.le_of_ble_eq_true rfl) rfl (ck65 (cr_S h) hy ?_)
  rw [ek]
  refine wq_s 11 d153_9 rfl rfl (Nat.le_of_ble_eq_true rfl) rfl rfl ?_
  refine wq_l 13 d153_11 rfl rfl rfl rfl ?_
  refine wq_k 15 10 d153_13 (by decide) rfl ?_
  refine wq_b 27 18 d153_15 rfl (by decide) rfl (fun c15 => ?_) (fun c15 => ?_)
  · -- pc 27
    have k10 : ¬ rl_k l y = 10 := fun z => c15 (by rw [z]; rfl)
    refine wq_l 28 d153_27 rfl rfl rfl rfl ?_
    refine wq_l 30 d153_28 rfl rfl rfl rfl ?_
    refine wq_v 33 [_] d153_30 rfl rfl m152 rfl rfl (Nat.le_of_ble_eq_true rfl) rfl (cr152 hG h hy (fun z => (h9 z).1) ?_)
    rw [show rl_st l y = rl_dt l (yb :: r, T) y from by unfold rl_dt; rw [if_neg k10]]
    refine wq_s 35 d153_33 rfl rfl (Nat.le_of_ble_eq_true rfl) rfl rfl ?_
    refine wq_l 36 d153_35 rfl rfl rfl rfl ?_
    refine wq_gr (ci := 7) (j := 0) (q := 3) 39 d153_36 rfl rfl rfl rfl ?_
    refine wq_l 40 d153_39 rfl rfl rfl rfl ?_
    refine wq_gr (ci := 7) (j := 0) (q := 3) 43 d153_40 rfl rfl rfl rfl ?_
    refine wq_l 44 d153_43 rfl rfl rfl rfl ?_
    refine wq_v 47 [_] d153_44 rfl rfl m69 rfl rfl (Nat.le_of_ble_eq_true rfl) rfl (ck69 h hi hn ?_)
    rw [hsc, hp_os]
    refine wq_v 50 [_] d153_47 rfl rfl m66 rfl rfl (Nat.le_of_ble_eq_true rfl) rfl (ck66 (i := sc) (cr_S h) hsl ?_)
    rw [hpart]
    refine wq_k 51 1 d153_50 (by decide) rfl ?_
    refine wq_b 58 54 d153_51 rfl (by decide) rfl (fun c51 => ?_) (fun c51 => ?_)
    · -- pc 58
      refine wq_k 59 0 d153_58 (by decide) rfl ?_
      rw [show (0 : Int32) = b2 (decide (part = 1)) from by rw [decide_eq_false (fun z => c51 (by rw [z]; rfl))]; rfl]
      refine wq_s 61 d153_59 rfl rfl (Nat.le_of_ble_eq_true rfl) rfl rfl ?_
      refine wq_l 62 d153_61 rfl rfl rfl rfl ?_
      refine wq_gr (ci := 7) (j := 3) (q := 6) 65 d153_62 rfl rfl rfl rfl ?_
      refine wq_v 68 [] d153_65 rfl rfl m132 rfl rfl (Nat.le_of_ble_eq_true rfl) rfl (cf132 h.2.2.2.2.2.1 ?_)
      refine wq_l 69 d153_68 rfl rfl rfl rfl ?_
      refine wq_a 70 d153_69 rfl rfl ?_
      rw [show nI (cv_L (yb :: r, T).1).length - nI m = nI ((cv_L r).length + yb.2.2.2.2.length - m) from by show nI (cv_L (yb :: r)).length - nI m = _; rw [lF]; exact nI_sbl (by omega)]
      refine wq_s 72 d153_70 rfl rfl (Nat.le_of_ble_eq_true rfl) rfl rfl ?_
      refine wq_k 73 0 d153_72 (by decide) rfl ?_
      refine wq_s 75 d153_73 rfl rfl (Nat.le_of_ble_eq_true rfl) rfl rfl ?_
      exact key _
    · -- pc 54
      refine wq_k 55 1 d153_54 (by decide) rfl ?_
      refine wq_g 59 d153_55 (by decide) ?_
      rw [show (1 : Int32) = b2 (decide (part = 1)) from by rw [decide_eq_true (show part = 1 from hp_inj (by omega) (by decide) (Classical.not_not.mp c51))]; rfl]
      refine wq_s 61 d153_59 rfl rfl (Nat.le_of_ble_eq_true rfl) rfl rfl ?_
      refine wq_l 62 d153_61 rfl rfl rfl rfl ?_
      refine wq_gr (ci := 7) (j := 3) (q := 6) 65 d153_62 rfl rfl rfl rfl ?_
      refine wq_v 68 [] d153_65 rfl rfl m132 rfl rfl (Nat.le_of_ble_eq_true rfl) rfl (cf132 h.2.2.2.2.2.1 ?_)
      refine wq_l 69 d153_68 rfl rfl rfl rfl ?_
      refine wq_a 70 d153_69 rfl rfl ?_
      rw [show nI (cv_L (yb :: r, T).1).length - nI m = nI ((cv_L r).length + yb.2.2.2.2.length - m) from by show nI (cv_L (yb :: r)).length - nI m = _; rw [lF]; exact nI_sbl (by omega)]
      refine wq_s 72 d153_70 rfl rfl (Nat.le_of_ble_eq_true rfl) rfl rfl ?_
      refine wq_k 73 0 d153_72 (by decide) rfl ?_
      refine wq_s 75 d153_73 rfl rfl (Nat.le_of_ble_eq_true rfl) rfl rfl ?_
      exact key _
  · -- pc 18
    have k10 : rl_k l y = 10 := by have := hp_inj (b := 10) (by omega) (by decide) (Classical.not_not.mp c15); omega
    refine wq_l 19 d153_18 rfl rfl rfl rfl ?_
    refine wq_l 21 d153_19 rfl rfl rfl rfl ?_
    refine wq_v 24 [_] d153_21 rfl rfl m154 rfl rfl (Nat.le_of_ble_eq_true rfl) rfl (cr154 h hf hkd hB hy (hx k10) ?_)
    rw [show hp_oi (rl_inst (yb :: r, T).1 (rl_v l y)) = rl_dt l (yb :: r, T) y from by obtain ⟨q, eq⟩ := Option.isSome_iff_exists.mp (h10 k10); unfold rl_dt; rw [if_pos k10]; show hp_oi (rl_inst (yb :: r) (rl_v l y)) = nI ((rl_inst (yb :: r) (rl_v l y)).getD 0); rw [eq]; rfl]
    refine wq_g 33 d153_24 (by decide) ?_
    refine wq_s 35 d153_33 rfl rfl (Nat.le_of_ble_eq_true rfl) rfl rfl ?_
    refine wq_l 36 d153_35 rfl rfl rfl rfl ?_
    refine wq_gr (ci := 7) (j := 0) (q := 3) 39 d153_36 rfl rfl rfl rfl ?_
    refine wq_l 40 d153_39 rfl rfl rfl rfl ?_
    refine wq_gr (ci := 7) (j := 0) (q := 3) 43 d153_40 rfl rfl rfl rfl ?_
    refine wq_l 44 d153_43 rfl rfl rfl rfl ?_
    refine wq_v 47 [_] d153_44 rfl rfl m69 rfl rfl (Nat.le_of_ble_eq_true rfl) rfl (ck69 h hi hn ?_)
    rw [hsc, hp_os]
    refine wq_v 50 [_] d153_47 rfl rfl m66 rfl rfl (Nat.le_of_ble_eq_true rfl) rfl (ck66 (i := sc) (cr_S h) hsl ?_)
    rw [hpart]
    refine wq_k 51 1 d153_50 (by decide) rfl ?_
    refine wq_b 58 54 d153_51 rfl (by decide) rfl (fun c51 => ?_) (fun c51 => ?_)
    · -- pc 58
      refine wq_k 59 0 d153_58 (by decide) rfl ?_
      rw [show (0 : Int32) = b2 (decide (part = 1)) from by rw [decide_eq_false (fun z => c51 (by rw [z]; rfl))]; rfl]
      refine wq_s 61 d153_59 rfl rfl (Nat.le_of_ble_eq_true rfl) rfl rfl ?_
      refine wq_l 62 d153_61 rfl rfl rfl rfl ?_
      refine wq_gr (ci := 7) (j := 3) (q := 6) 65 d153_62 rfl rfl rfl rfl ?_
      refine wq_v 68 [] d153_65 rfl rfl m132 rfl rfl (Nat.le_of_ble_eq_true rfl) rfl (cf132 h.2.2.2.2.2.1 ?_)
      refine wq_l 69 d153_68 rfl rfl rfl rfl ?_
      refine wq_a 70 d153_69 rfl rfl ?_
      rw [show nI (cv_L (yb :: r, T).1).length - nI m = nI ((cv_L r).length + yb.2.2.2.2.length - m) from by show nI (cv_L (yb :: r)).length - nI m = _; rw [lF]; exact nI_sbl (by omega)]
      refine wq_s 72 d153_70 rfl rfl (Nat.le_of_ble_eq_true rfl) rfl rfl ?_
      refine wq_k 73 0 d153_72 (by decide) rfl ?_
      refine wq_s 75 d153_73 rfl rfl (Nat.le_of_ble_eq_true rfl) rfl rfl ?_
      exact key _
    · -- pc 54
      refine wq_k 55 1 d153_54 (by decide) rfl ?_
      refine wq_g 59 d153_55 (by decide) ?_
      rw [show (1 : Int32) = b2 (decide (part = 1)) from by rw [decide_eq_true (show part = 1 from hp_inj (by omega) (by decide) (Classical.not_not.mp c51))]; rfl]
      refine wq_s 61 d153_59 rfl rfl (Nat.le_of_ble_eq_true rfl) rfl rfl ?_
      refine wq_l 62 d153_61 rfl rfl rfl rfl ?_
      refine wq_gr (ci := 7) (j := 3) (q := 6) 65 d153_62 rfl rfl rfl rfl ?_
      refine wq_v 68 [] d153_65 rfl rfl m132 rfl rfl (Nat.le_of_ble_eq_true rfl) rfl (cf132 h.2.2.2.2.2.1 ?_)
      refine wq_l 69 d153_68 rfl rfl rfl rfl ?_
      refine wq_a 70 d153_69 rfl rfl ?_
      rw [show nI (cv_L (yb :: r, T).1).length - nI m = nI ((cv_L r).length + yb.2.2.2.2.length - m) from by show nI (cv_L (yb :: r)).length - nI m = _; rw [lF]; exact nI_sbl (by omega)]
      refine wq_s 72 d153_70 rfl rfl (Nat.le_of_ble_eq_true rfl) rfl rfl ?_
      refine wq_k 73 0 d153_72 (by decide) rfl ?_
      refine wq_s 75 d153_73 rfl rfl (Nat.le_of_ble_eq_true rfl) rfl rfl ?_
      exact key _
theorem cr148l {d : Nat} {l : List pg_N} {NN nx : Nat} {σ0 σ : pm_S} {A : rl_A} {Q : Option Value → pm_S → Prop} {i e mm : Nat} {w4 w5 w6 : Value} (hG : lg_G l NN) (h : cr_I l NN σ0 σ nx A) (h6 : ∀ j, i < j → j < mm → rl_k l j = 6) (hk : ¬ rl_k l mm = 6) (hme : mm < e) (he : e ≤ l.length) (hg : pm_WP pm_Y0 (pm_call pm_Y0 (d + 4)) 7 prog_7_method_17_code (some FieldType.int) Q 37 [.ref 7, .int (nI i), .int (nI mm), .int (nI e), w4, w5, w6] [] σ) : ∀ (n c : Nat), c + n = mm → i < c → pm_WP pm_Y0 (pm_call pm_Y0 (d + 4)) 7 prog_7_method_17_code (some FieldType.int) Q 13 [.ref 7, .int (nI i), .int (nI c), .int (nI e), w4, w5, w6] [] σ := by
  have hl := h.2.1.1
  have ee := nI_toInt (n := e) (by omega)
  have km := (lg_V hG (show mm < l.length by omega)).1
  intro n
  induction n with
  | zero =>
    intro c hc hic
    have : c = mm := by omega
    subst this
    have ec := nI_toInt (n := c) (by omega)
    refine wq_l 14 d148_13 rfl rfl rfl rfl ?_
    refine wq_l 15 d148_14 rfl rfl rfl rfl ?_
    refine wq_b 37 18 d148_15 rfl (by decide) rfl (fun c15 => absurd c15 (by rw [i_le, ee, ec]; omega)) (fun c15 => ?_)
    refine wq_l 19 d148_18 rfl rfl rfl rfl ?_
    refine wq_gr (ci := 7) (j := 0) (q := 3) 22 d148_19 rfl rfl rfl rfl ?_
    refine wq_l 23 d148_22 rfl rfl rfl rfl ?_
    refine wq_v 26 [_] d148_23 rfl rfl m65 rfl rfl (Nat.le_of_ble_eq_true rfl) rfl (ck65 (cr_S h) (by omega) ?_)
    refine wq_k 28 6 d148_26 (by decide) rfl ?_
    refine wq_b 37 31 d148_28 rfl (by decide) rfl (fun c28 => ?_) (fun c28 => absurd (fun z => hk (hp_inj (by omega) (by decide) z)) c28)
    exact hg
  | succ n ih =>
    intro c hc hic
    have ec := nI_toInt (n := c) (by omega)
    refine wq_l 14 d148_13 rfl rfl rfl rfl ?_
    refine wq_l 15 d148_14 rfl rfl rfl rfl ?_
    refine wq_b 37 18 d148_15 rfl (by decide) rfl (fun c15 => absurd c15 (by rw [i_le, ee, ec]; omega)) (fun c15 => ?_)
    refine wq_l 19 d148_18 rfl rfl rfl rfl ?_
    refine wq_gr (ci := 7) (j := 0) (q := 3) 22 d148_19 rfl rfl rfl rfl ?_
    refine wq_l 23 d148_22 rfl rfl rfl rfl ?_
    refine wq_v 26 [_] d148_23 rfl rfl m65 rfl rfl (Nat.le_of_ble_eq_true rfl) rfl (ck65 (cr_S h) (by omega) ?_)
    rw [h6 c hic (by omega)]
    refine wq_k 28 6 d148_26 (by decide) rfl ?_
    refine wq_b 37 31 d148_28 rfl (by decide) rfl (fun c28 => absurd c28 (fun z => z rfl)) (fun c28 => ?_)
    refine wq_i 34 d148_31 rfl rfl rfl ?_
    refine wq_g 13 d148_34 (by decide) ?_
    rw [show nI c + Int32.ofInt 1 = nI (c + 1) from nI_1 c]
    exact ih (c + 1) (by omega) (by omega)
theorem cr148 {d : Nat} {l : List pg_N} {NN nx : Nat} {σ0 σ : pm_S} {Q : Option Value → pm_S → Prop} {y m i part sc : Nat} {hp cs : Bool} {yb : rl_B} {r : List rl_B} {T : (Nat → Int32) × (Nat → Int32) × (Nat → Int32)} (hG : lg_G l NN) (h : cr_I l NN σ0 σ nx (yb :: r, T)) (D : lg_D l i m hp y cs) (hm : m ≤ yb.2.2.2.2.length) (hu : ∀ (k : Nat) (v : rl_V), k < m → yb.2.2.2.2[k]? = some v → v.2.1 = 3 ∧ v.2.2.2.2.1 = rl_dsp l i m hp) (hus : ∀ (k : Nat) (v : rl_V), k < m → yb.2.2.2.2[k]? = some v → v.2.2.2.1 = part) (h9 : rl_k l y = 9 → y + 3 < l.length ∧ 1 ≤ rl_many l y ∧ rl_many l y ≤ 256) (h10 : rl_k l y = 10 → (rl_inst (yb :: r) (rl_v l y)).isSome = true) (hpv : pv_B (yb :: r)) (hcell : yb.2.2.2.1 + m * rl_zz l (yb :: r) y < 2 ^ 28) (hi : i < l.length) (hn : i < nx) (hsc : (rl_up l i).head? = some sc) (hscp : rl_par l i = sc) (hsl : sc < l.length) (hpart : rl_v l sc = nI part) (hp2 : part ≤ 2) (hQ : ∀ σ' A', cr_I l NN σ0 σ' nx A' → ((rl_decl l (yb :: r, T) i).1 = 0 → A' = (rl_decl l (yb :: r, T) i).2) → Q (some (.int (nI (rl_decl l (yb :: r, T) i).1))) σ') : pm_call pm_Y0 (d + 5) 148 [.ref 7, .int (nI i)] σ Q := by
  have hB : (yb :: r, T).1 ≠ [] := by intro w; cases w
  obtain ⟨z1, z2, z3⟩ := lg_cl hG hi
  have hl := h.2.1.1
  rw [rl_decl_u D, hscp, hpart, nI_clamp (by omega)] at hQ
  have hQ : ∀ σ' A', cr_I l NN σ0 σ' nx A' → _ → _ := hQ
  obtain ⟨d1, d2, d3, d4, d5, d6, d7, d8, d9⟩ := D
  have ky := (lg_V hG d6).1
  have hx : rl_k l y = 10 → 0 ≤ (rl_v l y).toInt ∧ (rl_v l y).toInt < NN := fun z => by
    have := (lg_V hG d6).2.1 (by rw [z]; rfl)
    omega
  have hyz := (rl_zc hG.1 d6).1
  have hf : cb_nm r yb.2.1 = none := hpv.1.2.1
  have hkd := pv_kd hpv
  have dt8 : rl_k l y ≠ 10 → rl_dt l (yb :: r, T) y = rl_st l y := fun z => by unfold rl_dt; rw [if_neg z]
  have st8 : rl_k l y = 8 → rl_st l y = rl_v l y := fun z => by unfold rl_st; rw [if_neg (by omega)]
  have e39 : nI (i + m + 1) - nI i - 1 = nI m := by
    rw [nI_sbl (by omega)]
    rw [show i + m + 1 - i = m + 1 by omega]
    exact nI_pred _
  have ez := nI_toInt (n := i + rl_z l i) (by omega)
  have eyz := nI_toInt (n := y + rl_z l y) (by cases cs <;> simp at d7 <;> omega)
  cases hp with
  | true =>
    have k7 : rl_k l (i + m + 1) = 7 := d3 rfl
    have ey : y = i + m + 2 := d4
    have hpl7 : i + m + 1 < l.length := by omega
    have esp : rl_dsp l i m true = rl_v l (i + m + 1) := rfl
    rw [esp] at hu hQ
    have sp1 : rl_v l (i + m + 1) ≠ -1 := by
      obtain ⟨a, o, ha, ho, h3, hv⟩ := lg_7 hG hpl7 k7
      rw [hv]; exact hp_ne (by omega)
    simp only [if_true, true_and, Bool.true_and, decide_eq_true_eq] at hQ
    have fin : cr_I l NN σ0 σ nx (yb :: r, T) → (∀ σ' A', cr_I l NN σ0 σ' nx A' → (((if 4096 < yb.2.2.2.1 then (19, (yb :: r, T)) else (0, rl_Aj (rl_k l y - 8) (rl_dt l (yb :: r, T) y) (rl_v l (i + m + 1)) (rl_zz l (yb :: r) y) m i m yb r T)) : Nat × rl_A).1 = 0 → A' = ((if 4096 < yb.2.2.2.1 then (19, (yb :: r, T)) else (0, rl_Aj (rl_k l y - 8) (rl_dt l (yb :: r, T) y) (rl_v l (i + m + 1)) (rl_zz l (yb :: r) y) m i m yb r T)) : Nat × rl_A).2) → Q (some (.int (nI ((if 4096 < yb.2.2.2.1 then (19, (yb :: r, T)) else (0, rl_Aj (rl_k l y - 8) (rl_dt l (yb :: r, T) y) (rl_v l (i + m + 1)) (rl_zz l (yb :: r) y) m i m yb r T)) : Nat × rl_A).1))) σ') → ∀ w6 : Value, pm_WP pm_Y0 (pm_call pm_Y0 (d + 4)) 7 prog_7_method_17_code (some FieldType.int) Q 160 [.ref 7, .int (nI i), .int (nI (i + m + 1)), .int (nI (i + rl_z l i)), .int (nI m), .int (nI y), w6] [] σ := by
      intro h hQ w6
      refine wq_l 161 d148_160 rfl rfl rfl rfl ?_
      refine wq_l 162 d148_161 rfl rfl rfl rfl ?_
      refine wq_l 164 d148_162 rfl rfl rfl rfl ?_
      refine wq_l 165 d148_164 rfl rfl rfl rfl ?_
      refine wq_l 167 d148_165 rfl rfl rfl rfl ?_
      refine wq_v 170 [_, _, _, _] d148_167 rfl rfl m153 rfl rfl (Nat.le_of_ble_eq_true rfl) rfl (cr153 (p := i + m + 1) hG h hm hu hus (Or.inr ⟨rfl, hpl7, k7, rfl, sp1⟩) d6 d5 h9 h10 hx hf hkd (by omega) hi hn hsc hsl hpart hp2 (fun σ167 h167 => ?_))
      have h167b := h167.2.2.2.2.1
      have ebl : rl_blk (rl_Aj (rl_k l y - 8) (rl_dt l (yb :: r, T) y) (rl_v l (i + m + 1)) (rl_zz l (yb :: r) y) m i m yb r T).1 r.length = some (rl_yj (rl_k l y - 8) (rl_dt l (yb :: r, T) y) (rl_v l (i + m + 1)) (rl_zz l (yb :: r) y) m m yb) := by show rl_blk (rl_yj (rl_k l y - 8) (rl_dt l (yb :: r, T) y) (rl_v l (i + m + 1)) (rl_zz l (yb :: r) y) m m yb :: r) _ = _; rw [rl_blkc, if_pos rfl]
      refine wq_l 171 d148_170 rfl rfl rfl rfl ?_
      refine wq_gr (ci := 7) (j := 2) (q := 5) 174 d148_171 rfl rfl rfl rfl ?_
      refine wq_l 175 d148_174 rfl rfl rfl rfl ?_
      refine wq_gr (ci := 7) (j := 2) (q := 5) 178 d148_175 rfl rfl rfl rfl ?_
      refine wq_v 181 [] d148_178 rfl rfl m116 rfl rfl (Nat.le_of_ble_eq_true rfl) rfl (cr116 h167 (by intro w; cases w) ?_)
      rw [show 8 + (rl_Aj (rl_k l y - 8) (rl_dt l (yb :: r, T) y) (rl_v l (i + m + 1)) (rl_zz l (yb :: r) y) m i m yb r T).1.length = 9 + r.length from by show 8 + (r.length + 1) = _; omega]
      refine wq_v 184 [_] d148_181 rfl rfl m118 rfl rfl (Nat.le_of_ble_eq_true rfl) rfl (cb118 h167b ebl ?_)
      rw [show (rl_yj (rl_k l y - 8) (rl_dt l (yb :: r, T) y) (rl_v l (i + m + 1)) (rl_zz l (yb :: r) y) m m yb).2.2.2.1 = yb.2.2.2.1 from if_neg sp1]
      have ecl := nI_toInt (n := yb.2.2.2.1) (by omega)
      refine wq_k 187 4096 d148_184 (by decide) rfl ?_
      refine wq_b 195 190 d148_187 rfl (by decide) rfl (fun c187 => ?_) (fun c187 => ?_)
      · -- pc 195
        refine wq_k 196 0 d148_195 (by decide) rfl ?_
        refine wq_ri d148_196 (rfl) ?_
        rw [if_neg (by rw [i_le, ecl] at c187; have c187 : (_ : Int) ≤ 4096 := c187; omega)] at hQ
        exact hQ _ _ h167 (fun _ => rfl)
      · -- pc 190
        refine wq_k 192 19 d148_190 (by decide) rfl ?_
        refine wq_g 196 d148_192 (by decide) ?_
        refine wq_ri d148_196 (rfl) ?_
        rw [if_pos (by rw [i_le, ecl] at c187; have c187 : ¬ (_ : Int) ≤ 4096 := c187; omega)] at hQ
        exact hQ _ _ h167 (fun z => absurd (show (19 : Nat) = 0 from z) (by decide))
    have eAj := rl_Ajm (s := rl_k l y - 8) (t := rl_dt l (yb :: r, T) y) (at_ := rl_v l (i + m + 1)) (z := rl_zz l (yb :: r) y) (m := m) (i := i) (y := yb) (r := r) (T := T) (hp := true) (by simp [sp1])
    simp only [if_true, if_false, Bool.false_eq_true] at eAj
    have eAj2 := eAj
    have hQ1 := hQ
    clear hQ
    cases cs with
    | true =>
      simp only [if_true, if_false, Bool.false_eq_true, true_and, false_and] at hQ1 d7
      refine wq_m m148 (Nat.le_of_ble_eq_true rfl) (by decide) rfl ?_
      refine wq_l 1 d148_0 rfl rfl rfl rfl ?_
      refine wq_k 2 1 d148_1 (by decide) rfl ?_
      refine wq_a 3 d148_2 rfl rfl ?_
      rw [nI_1]
      refine wq_s 4 d148_3 rfl rfl (Nat.le_of_ble_eq_true rfl) rfl rfl ?_
      refine wq_l 5 d148_4 rfl rfl rfl rfl ?_
      refine wq_gr (ci := 7) (j := 0) (q := 3) 8 d148_5 rfl rfl rfl rfl ?_
      refine wq_l 9 d148_8 rfl rfl rfl rfl ?_
      refine wq_v 12 [_] d148_9 rfl rfl m63 rfl rfl (Nat.le_of_ble_eq_true rfl) rfl (ck63 (cr_S h) hi ?_)
      refine wq_s 13 d148_12 rfl rfl (Nat.le_of_ble_eq_true rfl) rfl rfl ?_
      refine cr148l (mm := i + m + 1) hG h (fun j a b => d2 j a (by omega)) (by rw [k7]; decide) (by omega) z1 ?_ m (i + 1) (by omega) (by omega)
      refine wq_l 38 d148_37 rfl rfl rfl rfl ?_
      refine wq_l 39 d148_38 rfl rfl rfl rfl ?_
      refine wq_a 40 d148_39 rfl rfl ?_
      refine wq_k 41 1 d148_40 (by decide) rfl ?_
      refine wq_a 42 d148_41 rfl rfl ?_
      rw [e39]
      refine wq_s 44 d148_42 rfl rfl (Nat.le_of_ble_eq_true rfl) rfl rfl ?_
      refine wq_l 45 d148_44 rfl rfl rfl rfl ?_
      refine wq_s 47 d148_45 rfl rfl (Nat.le_of_ble_eq_true rfl) rfl rfl ?_
      refine wq_l 48 d148_47 rfl rfl rfl rfl ?_
      refine wq_gr (ci := 7) (j := 0) (q := 3) 51 d148_48 rfl rfl rfl rfl ?_
      refine wq_l 52 d148_51 rfl rfl rfl rfl ?_
      refine wq_v 55 [_] d148_52 rfl rfl m65 rfl rfl (Nat.le_of_ble_eq_true rfl) rfl (ck65 (i := i + m + 1) (cr_S h) (by omega) ?_)
      rw [k7]
      refine wq_k 57 7 d148_55 (by decide) rfl ?_
      refine wq_b 66 60 d148_57 rfl (by decide) rfl (fun c57 => absurd c57 (fun z => z rfl)) (fun c57 => ?_)
      refine wq_i 63 d148_60 rfl rfl rfl ?_
      rw [show nI (i + m + 1) + Int32.ofInt 1 = nI y from by rw [ey]; exact nI_1 _]
      refine wq_g 68 d148_63 (by decide) ?_
      refine wq_l 69 d148_68 rfl rfl rfl rfl ?_
      refine wq_gr (ci := 7) (j := 0) (q := 3) 72 d148_69 rfl rfl rfl rfl ?_
      refine wq_l 74 d148_72 rfl rfl rfl rfl ?_
      refine wq_v 77 [_] d148_74 rfl rfl m63 rfl rfl (Nat.le_of_ble_eq_true rfl) rfl (ck63 (i := y) (cr_S h) d6 ?_)
      refine wq_s 79 d148_77 rfl rfl (Nat.le_of_ble_eq_true rfl) rfl rfl ?_
      refine wq_l 80 d148_79 rfl rfl rfl rfl ?_
      refine wq_gr (ci := 7) (j := 0) (q := 3) 83 d148_80 rfl rfl rfl rfl ?_
      refine wq_l 84 d148_83 rfl rfl rfl rfl ?_
      refine wq_gr (ci := 7) (j := 0) (q := 3) 87 d148_84 rfl rfl rfl rfl ?_
      refine wq_l 88 d148_87 rfl rfl rfl rfl ?_
      refine wq_v 91 [_] d148_88 rfl rfl m69 rfl rfl (Nat.le_of_ble_eq_true rfl) rfl (ck69 h hi hn ?_)
      rw [hsc, hp_os]
      refine wq_v 94 [_] d148_91 rfl rfl m66 rfl rfl (Nat.le_of_ble_eq_true rfl) rfl (ck66 (i := sc) (cr_S h) hsl ?_)
      rw [hpart]
      refine wq_b 114 97 d148_94 rfl (by decide) rfl (fun c94 => ?_) (fun c94 => ?_)
      · -- pc 114
        have c94 : part = 0 := hp_inj (by omega) (by decide) c94
        refine wq_l 115 d148_114 rfl rfl rfl rfl ?_
        refine wq_k 116 (-1) d148_115 (by decide) rfl ?_
        refine wq_b 132 119 d148_116 rfl (by decide) rfl (fun c116 => absurd c116 (hp_ne (by omega))) (fun c116 => ?_)
        refine wq_l 120 d148_119 rfl rfl rfl rfl ?_
        refine wq_l 121 d148_120 rfl rfl rfl rfl ?_
        refine wq_l 123 d148_121 rfl rfl rfl rfl ?_
        refine wq_v 126 [_, _] d148_123 rfl rfl m149 rfl rfl (Nat.le_of_ble_eq_true rfl) rfl (cr149 (p := i + m + 1) (y := y) hG h hpl7 k7 d6 ?_)
        refine wq_b 132 129 d148_126 rfl (by decide) rfl (fun c126 => ?_) (fun c126 => ?_)
        · -- pc 132
          have f126 := b2n c126
          have w126 := of_decide_eq_true f126
          have n15 : ¬ (rl_k l y ≠ 8 ∨ rl_dt l (yb :: r, T) y ≠ (if rl_area (rl_v l (i + m + 1)) < 3 then 0 else 1)) := fun z => by
            rw [dt8 (by omega), st8 w126.1] at z
            exact z.elim (fun u => u w126.1) (fun u => u w126.2)
          refine wq_l 134 d148_132 rfl rfl rfl rfl ?_
          refine wq_l 135 d148_134 rfl rfl rfl rfl ?_
          refine wq_b 160 138 d148_135 rfl (by decide) rfl (fun c135 => absurd c135 (by rw [i_le, ez, eyz]; omega)) (fun c135 => ?_)
          refine wq_l 139 d148_138 rfl rfl rfl rfl ?_
          refine wq_l 140 d148_139 rfl rfl rfl rfl ?_
          refine wq_v 143 [_] d148_140 rfl rfl m150 rfl rfl (Nat.le_of_ble_eq_true rfl) rfl (cr150 (p := i + m + 1) hG h hpl7 k7 ?_)
          refine wq_b 157 146 d148_143 rfl (by decide) rfl (fun c143 => ?_) (fun c143 => ?_)
          · -- pc 157
            have f143 := b2n c143
            refine wq_k 159 18 d148_157 (by decide) rfl ?_
            refine wq_ri d148_159 (rfl) ?_
            rw [if_neg (fun z => z.1 c94), if_neg n15] at hQ1
            rw [if_pos (Or.inr (Or.inl (of_decide_eq_true f143)))] at hQ1
            exact hQ1 _ _ h (fun z => absurd (show (18 : Nat) = 0 from z) (by decide))
          · -- pc 146
            have f143 := b2y c143
            refine wq_l 147 d148_146 rfl rfl rfl rfl ?_
            refine wq_l 149 d148_147 rfl rfl rfl rfl ?_
            refine wq_l 151 d148_149 rfl rfl rfl rfl ?_
            refine wq_v 154 [_, _] d148_151 rfl rfl m151 rfl rfl (Nat.le_of_ble_eq_true rfl) rfl (cr151 (c := y + rl_z l y) (y := y) hG h (by omega) (d8 rfl) d6 (fun z => (h9 z).1) ?_)
            refine wq_b 160 157 d148_154 rfl (by decide) rfl (fun c154 => ?_) (fun c154 => ?_)
            · -- pc 160
              have f154 := b2n c154
              rw [if_neg (fun z => z.1 c94), if_neg n15] at hQ1
              rw [if_neg (fun z => by
                  have w154 := of_decide_eq_true f154
                  rcases z with u | u | u
                  · exact w154 (Or.inl u)
                  · exact of_decide_eq_false f143 u
                  · by_cases q : rl_k l y = 10
                    · exact w154 (Or.inl q)
                    · rw [dt8 q] at u; exact w154 (Or.inr u))] at hQ1
              refine fin h ?_ _
              rw [eAj]
              exact hQ1
            · -- pc 157
              have f154 := b2y c154
              refine wq_k 159 18 d148_157 (by decide) rfl ?_
              refine wq_ri d148_159 (rfl) ?_
              rw [if_neg (fun z => z.1 c94), if_neg n15] at hQ1
              rw [if_pos (by
                  rcases Classical.not_not.mp (of_decide_eq_false f154) with u | u
                  · exact Or.inl u
                  · by_cases q : rl_k l y = 10
                    · exact Or.inl q
                    · rw [dt8 q]; exact Or.inr (Or.inr u))] at hQ1
              exact hQ1 _ _ h (fun z => absurd (show (18 : Nat) = 0 from z) (by decide))
        · -- pc 129
          have f126 := b2y c126
          refine wq_k 131 15 d148_129 (by decide) rfl ?_
          refine wq_ri d148_131 (rfl) ?_
          rw [if_neg (fun z => z.1 c94), if_pos (by
              by_cases q : rl_k l y = 8
              · right
                rw [dt8 (by omega), st8 q]
                exact fun z => of_decide_eq_false f126 ⟨q, z⟩
              · exact Or.inl q)] at hQ1
          exact hQ1 _ _ h (fun z => absurd (show (15 : Nat) = 0 from z) (by decide))
      · -- pc 97
        have c94 : ¬ part = 0 := fun z => c94 (by rw [z]; rfl)
        refine wq_l 98 d148_97 rfl rfl rfl rfl ?_
        refine wq_gr (ci := 7) (j := 0) (q := 3) 101 d148_98 rfl rfl rfl rfl ?_
        refine wq_l 103 d148_101 rfl rfl rfl rfl ?_
        refine wq_v 106 [_] d148_103 rfl rfl m65 rfl rfl (Nat.le_of_ble_eq_true rfl) rfl (ck65 (i := y) (cr_S h) d6 ?_)
        refine wq_k 108 8 d148_106 (by decide) rfl ?_
        refine wq_b 114 111 d148_108 rfl (by decide) rfl (fun c108 => ?_) (fun c108 => ?_)
        · -- pc 114
          have c108 : rl_k l y = 8 := hp_inj (by omega) (by decide) c108
          refine wq_l 115 d148_114 rfl rfl rfl rfl ?_
          refine wq_k 116 (-1) d148_115 (by decide) rfl ?_
          refine wq_b 132 119 d148_116 rfl (by decide) rfl (fun c116 => absurd c116 (hp_ne (by omega))) (fun c116 => ?_)
          refine wq_l 120 d148_119 rfl rfl rfl rfl ?_
          refine wq_l 121 d148_120 rfl rfl rfl rfl ?_
          refine wq_l 123 d148_121 rfl rfl rfl rfl ?_
          refine wq_v 126 [_, _] d148_123 rfl rfl m149 rfl rfl (Nat.le_of_ble_eq_true rfl) rfl (cr149 (p := i + m + 1) (y := y) hG h hpl7 k7 d6 ?_)
          refine wq_b 132 129 d148_126 rfl (by decide) rfl (fun c126 => ?_) (fun c126 => ?_)
          · -- pc 132
            have f126 := b2n c126
            have w126 := of_decide_eq_true f126
            have n15 : ¬ (rl_k l y ≠ 8 ∨ rl_dt l (yb :: r, T) y ≠ (if rl_area (rl_v l (i + m + 1)) < 3 then 0 else 1)) := fun z => by
              rw [dt8 (by omega), st8 w126.1] at z
              exact z.elim (fun u => u w126.1) (fun u => u w126.2)
            refine wq_l 134 d148_132 rfl rfl rfl rfl ?_
            refine wq_l 135 d148_134 rfl rfl rfl rfl ?_
            refine wq_b 160 138 d148_135 rfl (by decide) rfl (fun c135 => absurd c135 (by rw [i_le, ez, eyz]; omega)) (fun c135 => ?_)
            refine wq_l 139 d148_138 rfl rfl rfl rfl ?_
            refine wq_l 140 d148_139 rfl rfl rfl rfl ?_
            refine wq_v 143 [_] d148_140 rfl rfl m150 rfl rfl (Nat.le_of_ble_eq_true rfl) rfl (cr150 (p := i + m + 1) hG h hpl7 k7 ?_)
            refine wq_b 157 146 d148_143 rfl (by decide) rfl (fun c143 => ?_) (fun c143 => ?_)
            · -- pc 157
              have f143 := b2n c143
              refine wq_k 159 18 d148_157 (by decide) rfl ?_
              refine wq_ri d148_159 (rfl) ?_
              rw [if_neg (fun z => z.2 c108), if_neg n15] at hQ1
              rw [if_pos (Or.inr (Or.inl (of_decide_eq_true f143)))] at hQ1
              exact hQ1 _ _ h (fun z => absurd (show (18 : Nat) = 0 from z) (by decide))
            · -- pc 146
              have f143 := b2y c143
              refine wq_l 147 d148_146 rfl rfl rfl rfl ?_
              refine wq_l 149 d148_147 rfl rfl rfl rfl ?_
              refine wq_l 151 d148_149 rfl rfl rfl rfl ?_
              refine wq_v 154 [_, _] d148_151 rfl rfl m151 rfl rfl (Nat.le_of_ble_eq_true rfl) rfl (cr151 (c := y + rl_z l y) (y := y) hG h (by omega) (d8 rfl) d6 (fun z => (h9 z).1) ?_)
              refine wq_b 160 157 d148_154 rfl (by decide) rfl (fun c154 => ?_) (fun c154 => ?_)
              · -- pc 160
                have f154 := b2n c154
                rw [if_neg (fun z => z.2 c108), if_neg n15] at hQ1
                rw [if_neg (fun z => by
                    have w154 := of_decide_eq_true f154
                    rcases z with u | u | u
                    · exact w154 (Or.inl u)
                    · exact of_decide_eq_false f143 u
                    · by_cases q : rl_k l y = 10
                      · exact w154 (Or.inl q)
                      · rw [dt8 q] at u; exact w154 (Or.inr u))] at hQ1
                refine fin h ?_ _
                rw [eAj]
                exact hQ1
              · -- pc 157
                have f154 := b2y c154
                refine wq_k 159 18 d148_157 (by decide) rfl ?_
                refine wq_ri d148_159 (rfl) ?_
                rw [if_neg (fun z => z.2 c108), if_neg n15] at hQ1
                rw [if_pos (by
                    rcases Classical.not_not.mp (of_decide_eq_false f154) with u | u
                    · exact Or.inl u
                    · by_cases q : rl_k l y = 10
                      · exact Or.inl q
                      · rw [dt8 q]; exact Or.inr (Or.inr u))] at hQ1
                exact hQ1 _ _ h (fun z => absurd (show (18 : Nat) = 0 from z) (by decide))
          · -- pc 129
            have f126 := b2y c126
            refine wq_k 131 15 d148_129 (by decide) rfl ?_
            refine wq_ri d148_131 (rfl) ?_
            rw [if_neg (fun z => z.2 c108), if_pos (by
                by_cases q : rl_k l y = 8
                · right
                  rw [dt8 (by omega), st8 q]
                  exact fun z => of_decide_eq_false f126 ⟨q, z⟩
                · exact Or.inl q)] at hQ1
            exact hQ1 _ _ h (fun z => absurd (show (15 : Nat) = 0 from z) (by decide))
        · -- pc 111
          have c108 : ¬ rl_k l y = 8 := fun z => c108 (by rw [z]; rfl)
          refine wq_k 113 43 d148_111 (by decide) rfl ?_
          refine wq_ri d148_113 (rfl) ?_
          rw [if_pos ⟨c94, c108⟩] at hQ1
          exact hQ1 _ _ h (fun z => absurd (show (43 : Nat) = 0 from z) (by decide))
    | false =>
      simp only [if_true, if_false, Bool.false_eq_true, true_and, false_and] at hQ1 d7
      refine wq_m m148 (Nat.le_of_ble_eq_true rfl) (by decide) rfl ?_
      refine wq_l 1 d148_0 rfl rfl rfl rfl ?_
      refine wq_k 2 1 d148_1 (by decide) rfl ?_
      refine wq_a 3 d148_2 rfl rfl ?_
      rw [nI_1]
      refine wq_s 4 d148_3 rfl rfl (Nat.le_of_ble_eq_true rfl) rfl rfl ?_
      refine wq_l 5 d148_4 rfl rfl rfl rfl ?_
      refine wq_gr (ci := 7) (j := 0) (q := 3) 8 d148_5 rfl rfl rfl rfl ?_
      refine wq_l 9 d148_8 rfl rfl rfl rfl ?_
      refine wq_v 12 [_] d148_9 rfl rfl m63 rfl rfl (Nat.le_of_ble_eq_true rfl) rfl (ck63 (cr_S h) hi ?_)
      refine wq_s 13 d148_12 rfl rfl (Nat.le_of_ble_eq_true rfl) rfl rfl ?_
      refine cr148l (mm := i + m + 1) hG h (fun j a b => d2 j a (by omega)) (by rw [k7]; decide) (by omega) z1 ?_ m (i + 1) (by omega) (by omega)
      refine wq_l 38 d148_37 rfl rfl rfl rfl ?_
      refine wq_l 39 d148_38 rfl rfl rfl rfl ?_
      refine wq_a 40 d148_39 rfl rfl ?_
      refine wq_k 41 1 d148_40 (by decide) rfl ?_
      refine wq_a 42 d148_41 rfl rfl ?_
      rw [e39]
      refine wq_s 44 d148_42 rfl rfl (Nat.le_of_ble_eq_true rfl) rfl rfl ?_
      refine wq_l 45 d148_44 rfl rfl rfl rfl ?_
      refine wq_s 47 d148_45 rfl rfl (Nat.le_of_ble_eq_true rfl) rfl rfl ?_
      refine wq_l 48 d148_47 rfl rfl rfl rfl ?_
      refine wq_gr (ci := 7) (j := 0) (q := 3) 51 d148_48 rfl rfl rfl rfl ?_
      refine wq_l 52 d148_51 rfl rfl rfl rfl ?_
      refine wq_v 55 [_] d148_52 rfl rfl m65 rfl rfl (Nat.le_of_ble_eq_true rfl) rfl (ck65 (i := i + m + 1) (cr_S h) (by omega) ?_)
      rw [k7]
      refine wq_k 57 7 d148_55 (by decide) rfl ?_
      refine wq_b 66 60 d148_57 rfl (by decide) rfl (fun c57 => absurd c57 (fun z => z rfl)) (fun c57 => ?_)
      refine wq_i 63 d148_60 rfl rfl rfl ?_
      rw [show nI (i + m + 1) + Int32.ofInt 1 = nI y from by rw [ey]; exact nI_1 _]
      refine wq_g 68 d148_63 (by decide) ?_
      refine wq_l 69 d148_68 rfl rfl rfl rfl ?_
      refine wq_gr (ci := 7) (j := 0) (q := 3) 72 d148_69 rfl rfl rfl rfl ?_
      refine wq_l 74 d148_72 rfl rfl rfl rfl ?_
      refine wq_v 77 [_] d148_74 rfl rfl m63 rfl rfl (Nat.le_of_ble_eq_true rfl) rfl (ck63 (i := y) (cr_S h) d6 ?_)
      refine wq_s 79 d148_77 rfl rfl (Nat.le_of_ble_eq_true rfl) rfl rfl ?_
      refine wq_l 80 d148_79 rfl rfl rfl rfl ?_
      refine wq_gr (ci := 7) (j := 0) (q := 3) 83 d148_80 rfl rfl rfl rfl ?_
      refine wq_l 84 d148_83 rfl rfl rfl rfl ?_
      refine wq_gr (ci := 7) (j := 0) (q := 3) 87 d148_84 rfl rfl rfl rfl ?_
      refine wq_l 88 d148_87 rfl rfl rfl rfl ?_
      refine wq_v 91 [_] d148_88 rfl rfl m69 rfl rfl (Nat.le_of_ble_eq_true rfl) rfl (ck69 h hi hn ?_)
      rw [hsc, hp_os]
      refine wq_v 94 [_] d148_91 rfl rfl m66 rfl rfl (Nat.le_of_ble_eq_true rfl) rfl (ck66 (i := sc) (cr_S h) hsl ?_)
      rw [hpart]
      refine wq_b 114 97 d148_94 rfl (by decide) rfl (fun c94 => ?_) (fun c94 => ?_)
      · -- pc 114
        have c94 : part = 0 := hp_inj (by omega) (by decide) c94
        refine wq_l 115 d148_114 rfl rfl rfl rfl ?_
        refine wq_k 116 (-1) d148_115 (by decide) rfl ?_
        refine wq_b 132 119 d148_116 rfl (by decide) rfl (fun c116 => absurd c116 (hp_ne (by omega))) (fun c116 => ?_)
        refine wq_l 120 d148_119 rfl rfl rfl rfl ?_
        refine wq_l 121 d148_120 rfl rfl rfl rfl ?_
        refine wq_l 123 d148_121 rfl rfl rfl rfl ?_
        refine wq_v 126 [_, _] d148_123 rfl rfl m149 rfl rfl (Nat.le_of_ble_eq_true rfl) rfl (cr149 (p := i + m + 1) (y := y) hG h hpl7 k7 d6 ?_)
        refine wq_b 132 129 d148_126 rfl (by decide) rfl (fun c126 => ?_) (fun c126 => ?_)
        · -- pc 132
          have f126 := b2n c126
          have w126 := of_decide_eq_true f126
          have n15 : ¬ (rl_k l y ≠ 8 ∨ rl_dt l (yb :: r, T) y ≠ (if rl_area (rl_v l (i + m + 1)) < 3 then 0 else 1)) := fun z => by
            rw [dt8 (by omega), st8 w126.1] at z
            exact z.elim (fun u => u w126.1) (fun u => u w126.2)
          refine wq_l 134 d148_132 rfl rfl rfl rfl ?_
          refine wq_l 135 d148_134 rfl rfl rfl rfl ?_
          refine wq_b 160 138 d148_135 rfl (by decide) rfl (fun c135 => ?_) (fun c135 => absurd (by rw [i_le, ez, eyz]; omega) c135)
          rw [if_neg (fun z => z.1 c94), if_neg n15] at hQ1
          refine fin h ?_ _
          rw [eAj]
          exact hQ1
        · -- pc 129
          have f126 := b2y c126
          refine wq_k 131 15 d148_129 (by decide) rfl ?_
          refine wq_ri d148_131 (rfl) ?_
          rw [if_neg (fun z => z.1 c94), if_pos (by
              by_cases q : rl_k l y = 8
              · right
                rw [dt8 (by omega), st8 q]
                exact fun z => of_decide_eq_false f126 ⟨q, z⟩
              · exact Or.inl q)] at hQ1
          exact hQ1 _ _ h (fun z => absurd (show (15 : Nat) = 0 from z) (by decide))
      · -- pc 97
        have c94 : ¬ part = 0 := fun z => c94 (by rw [z]; rfl)
        refine wq_l 98 d148_97 rfl rfl rfl rfl ?_
        refine wq_gr (ci := 7) (j := 0) (q := 3) 101 d148_98 rfl rfl rfl rfl ?_
        refine wq_l 103 d148_101 rfl rfl rfl rfl ?_
        refine wq_v 106 [_] d148_103 rfl rfl m65 rfl rfl (Nat.le_of_ble_eq_true rfl) rfl (ck65 (i := y) (cr_S h) d6 ?_)
        refine wq_k 108 8 d148_106 (by decide) rfl ?_
        refine wq_b 114 111 d148_108 rfl (by decide) rfl (fun c108 => ?_) (fun c108 => ?_)
        · -- pc 114
          have c108 : rl_k l y = 8 := hp_inj (by omega) (by decide) c108
          refine wq_l 115 d148_114 rfl rfl rfl rfl ?_
          refine wq_k 116 (-1) d148_115 (by decide) rfl ?_
          refine wq_b 132 119 d148_116 rfl (by decide) rfl (fun c116 => absurd c116 (hp_ne (by omega))) (fun c116 => ?_)
          refine wq_l 120 d148_119 rfl rfl rfl rfl ?_
          refine wq_l 121 d148_120 rfl rfl rfl rfl ?_
          refine wq_l 123 d148_121 rfl rfl rfl rfl ?_
          refine wq_v 126 [_, _] d148_123 rfl rfl m149 rfl rfl (Nat.le_of_ble_eq_true rfl) rfl (cr149 (p := i + m + 1) (y := y) hG h hpl7 k7 d6 ?_)
          refine wq_b 132 129 d148_126 rfl (by decide) rfl (fun c126 => ?_) (fun c126 => ?_)
          · -- pc 132
            have f126 := b2n c126
            have w126 := of_decide_eq_true f126
            have n15 : ¬ (rl_k l y ≠ 8 ∨ rl_dt l (yb :: r, T) y ≠ (if rl_area (rl_v l (i + m + 1)) < 3 then 0 else 1)) := fun z => by
              rw [dt8 (by omega), st8 w126.1] at z
              exact z.elim (fun u => u w126.1) (fun u => u w126.2)
            refine wq_l 134 d148_132 rfl rfl rfl rfl ?_
            refine wq_l 135 d148_134 rfl rfl rfl rfl ?_
            refine wq_b 160 138 d148_135 rfl (by decide) rfl (fun c135 => ?_) (fun c135 => absurd (by rw [i_le, ez, eyz]; omega) c135)
            rw [if_neg (fun z => z.2 c108), if_neg n15] at hQ1
            refine fin h ?_ _
            rw [eAj]
            exact hQ1
          · -- pc 129
            have f126 := b2y c126
            refine wq_k 131 15 d148_129 (by decide) rfl ?_
            refine wq_ri d148_131 (rfl) ?_
            rw [if_neg (fun z => z.2 c108), if_pos (by
                by_cases q : rl_k l y = 8
                · right
                  rw [dt8 (by omega), st8 q]
                  exact fun z => of_decide_eq_false f126 ⟨q, z⟩
                · exact Or.inl q)] at hQ1
            exact hQ1 _ _ h (fun z => absurd (show (15 : Nat) = 0 from z) (by decide))
        · -- pc 111
          have c108 : ¬ rl_k l y = 8 := fun z => c108 (by rw [z]; rfl)
          refine wq_k 113 43 d148_111 (by decide) rfl ?_
          refine wq_ri d148_113 (rfl) ?_
          rw [if_pos ⟨c94, c108⟩] at hQ1
          exact hQ1 _ _ h (fun z => absurd (show (43 : Nat) = 0 from z) (by decide))
  | false =>
    have ey : y = i + m + 1 := d4
    have esp : rl_dsp l i m false = -1 := rfl
    rw [esp] at hu hQ
    simp only [if_false, Bool.false_eq_true, false_and, Bool.false_and, false_or] at hQ
    have fin : cr_I l NN σ0 σ nx (yb :: r, T) → (∀ σ' A', cr_I l NN σ0 σ' nx A' → (((if 4096 < yb.2.2.2.1 + m * rl_zz l (yb :: r) y then (19, (yb :: r, T)) else (0, rl_Aj (rl_k l y - 8) (rl_dt l (yb :: r, T) y) (-1) (rl_zz l (yb :: r) y) m i m yb r T)) : Nat × rl_A).1 = 0 → A' = ((if 4096 < yb.2.2.2.1 + m * rl_zz l (yb :: r) y then (19, (yb :: r, T)) else (0, rl_Aj (rl_k l y - 8) (rl_dt l (yb :: r, T) y) (-1) (rl_zz l (yb :: r) y) m i m yb r T)) : Nat × rl_A).2) → Q (some (.int (nI ((if 4096 < yb.2.2.2.1 + m * rl_zz l (yb :: r) y then (19, (yb :: r, T)) else (0, rl_Aj (rl_k l y - 8) (rl_dt l (yb :: r, T) y) (-1) (rl_zz l (yb :: r) y) m i m yb r T)) : Nat × rl_A).1))) σ') → ∀ w6 : Value, pm_WP pm_Y0 (pm_call pm_Y0 (d + 4)) 7 prog_7_method_17_code (some FieldType.int) Q 160 [.ref 7, .int (nI i), .int (-1), .int (nI (i + rl_z l i)), .int (nI m), .int (nI y), w6] [] σ := by
      intro h hQ w6
      refine wq_l 161 d148_160 rfl rfl rfl rfl ?_
      refine wq_l 162 d148_161 rfl rfl rfl rfl ?_
      refine wq_l 164 d148_162 rfl rfl rfl rfl ?_
      refine wq_l 165 d148_164 rfl rfl rfl rfl ?_
      refine wq_l 167 d148_165 rfl rfl rfl rfl ?_
      refine wq_v 170 [_, _, _, _] d148_167 rfl rfl m153 rfl rfl (Nat.le_of_ble_eq_true rfl) rfl (cr153 (p := i + m + 1) hG h hm hu hus (Or.inl ⟨rfl, rfl⟩) d6 d5 h9 h10 hx hf hkd (by omega) hi hn hsc hsl hpart hp2 (fun σ167 h167 => ?_))
      have h167b := h167.2.2.2.2.1
      have ebl : rl_blk (rl_Aj (rl_k l y - 8) (rl_dt l (yb :: r, T) y) (-1) (rl_zz l (yb :: r) y) m i m yb r T).1 r.length = some (rl_yj (rl_k l y - 8) (rl_dt l (yb :: r, T) y) (-1) (rl_zz l (yb :: r) y) m m yb) := by show rl_blk (rl_yj (rl_k l y - 8) (rl_dt l (yb :: r, T) y) (-1) (rl_zz l (yb :: r) y) m m yb :: r) _ = _; rw [rl_blkc, if_pos rfl]
      refine wq_l 171 d148_170 rfl rfl rfl rfl ?_
      refine wq_gr (ci := 7) (j := 2) (q := 5) 174 d148_171 rfl rfl rfl rfl ?_
      refine wq_l 175 d148_174 rfl rfl rfl rfl ?_
      refine wq_gr (ci := 7) (j := 2) (q := 5) 178 d148_175 rfl rfl rfl rfl ?_
      refine wq_v 181 [] d148_178 rfl rfl m116 rfl rfl (Nat.le_of_ble_eq_true rfl) rfl (cr116 h167 (by intro w; cases w) ?_)
      rw [show 8 + (rl_Aj (rl_k l y - 8) (rl_dt l (yb :: r, T) y) (-1) (rl_zz l (yb :: r) y) m i m yb r T).1.length = 9 + r.length from by show 8 + (r.length + 1) = _; omega]
      refine wq_v 184 [_] d148_181 rfl rfl m118 rfl rfl (Nat.le_of_ble_eq_true rfl) rfl (cb118 h167b ebl ?_)
      rw [show (rl_yj (rl_k l y - 8) (rl_dt l (yb :: r, T) y) (-1) (rl_zz l (yb :: r) y) m m yb).2.2.2.1 = yb.2.2.2.1 + m * rl_zz l (yb :: r) y from (if_pos (show (-1 : Int32) = -1 from rfl) : (if (-1 : Int32) = -1 then yb.2.2.2.1 + m * rl_zz l (yb :: r) y else yb.2.2.2.1) = _)]
      have ecl := nI_toInt (n := yb.2.2.2.1 + m * rl_zz l (yb :: r) y) (by omega)
      refine wq_k 187 4096 d148_184 (by decide) rfl ?_
      refine wq_b 195 190 d148_187 rfl (by decide) rfl (fun c187 => ?_) (fun c187 => ?_)
      · -- pc 195
        refine wq_k 196 0 d148_195 (by decide) rfl ?_
        refine wq_ri d148_196 (rfl) ?_
        rw [if_neg (by rw [i_le, ecl] at c187; have c187 : (_ : Int) ≤ 4096 := c187; omega)] at hQ
        exact hQ _ _ h167 (fun _ => rfl)
      · -- pc 190
        refine wq_k 192 19 d148_190 (by decide) rfl ?_
        refine wq_g 196 d148_192 (by decide) ?_
        refine wq_ri d148_196 (rfl) ?_
        rw [if_pos (by rw [i_le, ecl] at c187; have c187 : ¬ (_ : Int) ≤ 4096 := c187; omega)] at hQ
        exact hQ _ _ h167 (fun z => absurd (show (19 : Nat) = 0 from z) (by decide))
    have eAj := rl_Ajm (s := rl_k l y - 8) (t := rl_dt l (yb :: r, T) y) (at_ := -1) (z := rl_zz l (yb :: r) y) (m := m) (i := i) (y := yb) (r := r) (T := T) (hp := false) (by simp)
    simp only [if_true, if_false, Bool.false_eq_true] at eAj
    have eAj2 := eAj
    have hQ1 := hQ
    clear hQ
    cases cs with
    | true =>
      simp only [if_true, if_false, Bool.false_eq_true, true_and, false_and] at hQ1 d7
      refine wq_m m148 (Nat.le_of_ble_eq_true rfl) (by decide) rfl ?_
      refine wq_l 1 d148_0 rfl rfl rfl rfl ?_
      refine wq_k 2 1 d148_1 (by decide) rfl ?_
      refine wq_a 3 d148_2 rfl rfl ?_
      rw [nI_1]
      refine wq_s 4 d148_3 rfl rfl (Nat.le_of_ble_eq_true rfl) rfl rfl ?_
      refine wq_l 5 d148_4 rfl rfl rfl rfl ?_
      refine wq_gr (ci := 7) (j := 0) (q := 3) 8 d148_5 rfl rfl rfl rfl ?_
      refine wq_l 9 d148_8 rfl rfl rfl rfl ?_
      refine wq_v 12 [_] d148_9 rfl rfl m63 rfl rfl (Nat.le_of_ble_eq_true rfl) rfl (ck63 (cr_S h) hi ?_)
      refine wq_s 13 d148_12 rfl rfl (Nat.le_of_ble_eq_true rfl) rfl rfl ?_
      refine cr148l (mm := i + m + 1) hG h (fun j a b => d2 j a (by omega)) (by rw [← ey]; omega) (by omega) z1 ?_ m (i + 1) (by omega) (by omega)
      refine wq_l 38 d148_37 rfl rfl rfl rfl ?_
      refine wq_l 39 d148_38 rfl rfl rfl rfl ?_
      refine wq_a 40 d148_39 rfl rfl ?_
      refine wq_k 41 1 d148_40 (by decide) rfl ?_
      refine wq_a 42 d148_41 rfl rfl ?_
      rw [e39]
      refine wq_s 44 d148_42 rfl rfl (Nat.le_of_ble_eq_true rfl) rfl rfl ?_
      refine wq_l 45 d148_44 rfl rfl rfl rfl ?_
      refine wq_s 47 d148_45 rfl rfl (Nat.le_of_ble_eq_true rfl) rfl rfl ?_
      refine wq_l 48 d148_47 rfl rfl rfl rfl ?_
      refine wq_gr (ci := 7) (j := 0) (q := 3) 51 d148_48 rfl rfl rfl rfl ?_
      refine wq_l 52 d148_51 rfl rfl rfl rfl ?_
      refine wq_v 55 [_] d148_52 rfl rfl m65 rfl rfl (Nat.le_of_ble_eq_true rfl) rfl (ck65 (i := i + m + 1) (cr_S h) (by omega) ?_)
      refine wq_k 57 7 d148_55 (by decide) rfl ?_
      refine wq_b 66 60 d148_57 rfl (by decide) rfl (fun c57 => ?_) (fun c57 => absurd (fun z => by have : rl_k l (i + m + 1) = 7 := hp_inj (by rw [← ey]; omega) (by decide) z; rw [← ey] at this; omega) c57)
      refine wq_k 67 (-1) d148_66 (by decide) rfl ?_
      rw [show nI (i + m + 1) = nI y from by rw [ey]]
      refine wq_s 68 d148_67 rfl rfl (Nat.le_of_ble_eq_true rfl) rfl rfl ?_
      refine wq_l 69 d148_68 rfl rfl rfl rfl ?_
      refine wq_gr (ci := 7) (j := 0) (q := 3) 72 d148_69 rfl rfl rfl rfl ?_
      refine wq_l 74 d148_72 rfl rfl rfl rfl ?_
      refine wq_v 77 [_] d148_74 rfl rfl m63 rfl rfl (Nat.le_of_ble_eq_true rfl) rfl (ck63 (i := y) (cr_S h) d6 ?_)
      refine wq_s 79 d148_77 rfl rfl (Nat.le_of_ble_eq_true rfl) rfl rfl ?_
      refine wq_l 80 d148_79 rfl rfl rfl rfl ?_
      refine wq_gr (ci := 7) (j := 0) (q := 3) 83 d148_80 rfl rfl rfl rfl ?_
      refine wq_l 84 d148_83 rfl rfl rfl rfl ?_
      refine wq_gr (ci := 7) (j := 0) (q := 3) 87 d148_84 rfl rfl rfl rfl ?_
      refine wq_l 88 d148_87 rfl rfl rfl rfl ?_
      refine wq_v 91 [_] d148_88 rfl rfl m69 rfl rfl (Nat.le_of_ble_eq_true rfl) rfl (ck69 h hi hn ?_)
      rw [hsc, hp_os]
      refine wq_v 94 [_] d148_91 rfl rfl m66 rfl rfl (Nat.le_of_ble_eq_true rfl) rfl (ck66 (i := sc) (cr_S h) hsl ?_)
      rw [hpart]
      refine wq_b 114 97 d148_94 rfl (by decide) rfl (fun c94 => ?_) (fun c94 => ?_)
      · -- pc 114
        have c94 : part = 0 := hp_inj (by omega) (by decide) c94
        refine wq_l 115 d148_114 rfl rfl rfl rfl ?_
        refine wq_k 116 (-1) d148_115 (by decide) rfl ?_
        refine wq_b 132 119 d148_116 rfl (by decide) rfl (fun c116 => ?_) (fun c116 => absurd (rfl) c116)
        skip
        refine wq_l 134 d148_132 rfl rfl rfl rfl ?_
        refine wq_l 135 d148_134 rfl rfl rfl rfl ?_
        refine wq_b 160 138 d148_135 rfl (by decide) rfl (fun c135 => absurd c135 (by rw [i_le, ez, eyz]; omega)) (fun c135 => ?_)
        refine wq_l 139 d148_138 rfl rfl rfl rfl ?_
        refine wq_l 140 d148_139 rfl rfl rfl rfl ?_
        refine wq_v 143 [_] d148_140 rfl rfl m150 rfl rfl (Nat.le_of_ble_eq_true rfl) rfl (cr150n h ?_)
        refine wq_b 157 146 d148_143 rfl (by decide) rfl (fun c143 => absurd c143 (fun z => z rfl)) (fun c143 => ?_)
        refine wq_l 147 d148_146 rfl rfl rfl rfl ?_
        refine wq_l 149 d148_147 rfl rfl rfl rfl ?_
        refine wq_l 151 d148_149 rfl rfl rfl rfl ?_
        refine wq_v 154 [_, _] d148_151 rfl rfl m151 rfl rfl (Nat.le_of_ble_eq_true rfl) rfl (cr151 (c := y + rl_z l y) (y := y) hG h (by omega) (d8 rfl) d6 (fun z => (h9 z).1) ?_)
        refine wq_b 160 157 d148_154 rfl (by decide) rfl (fun c154 => ?_) (fun c154 => ?_)
        · -- pc 160
          have f154 := b2n c154
          rw [if_neg (fun z => z.1 c94)] at hQ1
          rw [if_neg (fun z => by
              have w154 := of_decide_eq_true f154
              rcases z with u | u
              · exact w154 (Or.inl u)
              · by_cases q : rl_k l y = 10
                · exact w154 (Or.inl q)
                · rw [dt8 q] at u; exact w154 (Or.inr u))] at hQ1
          refine fin h ?_ _
          rw [eAj]
          exact hQ1
        · -- pc 157
          have f154 := b2y c154
          refine wq_k 159 18 d148_157 (by decide) rfl ?_
          refine wq_ri d148_159 (rfl) ?_
          rw [if_neg (fun z => z.1 c94)] at hQ1
          rw [if_pos (by
              rcases Classical.not_not.mp (of_decide_eq_false f154) with u | u
              · exact Or.inl u
              · by_cases q : rl_k l y = 10
                · exact Or.inl q
                · rw [dt8 q]; exact Or.inr u)] at hQ1
          exact hQ1 _ _ h (fun z => absurd (show (18 : Nat) = 0 from z) (by decide))
      · -- pc 97
        have c94 : ¬ part = 0 := fun z => c94 (by rw [z]; rfl)
        refine wq_l 98 d148_97 rfl rfl rfl rfl ?_
        refine wq_gr (ci := 7) (j := 0) (q := 3) 101 d148_98 rfl rfl rfl rfl ?_
        refine wq_l 103 d148_101 rfl rfl rfl rfl ?_
        refine wq_v 106 [_] d148_103 rfl rfl m65 rfl rfl (Nat.le_of_ble_eq_true rfl) rfl (ck65 (i := y) (cr_S h) d6 ?_)
        refine wq_k 108 8 d148_106 (by decide) rfl ?_
        refine wq_b 114 111 d148_108 rfl (by decide) rfl (fun c108 => ?_) (fun c108 => ?_)
        · -- pc 114
          have c108 : rl_k l y = 8 := hp_inj (by omega) (by decide) c108
          refine wq_l 115 d148_114 rfl rfl rfl rfl ?_
          refine wq_k 116 (-1) d148_115 (by decide) rfl ?_
          refine wq_b 132 119 d148_116 rfl (by decide) rfl (fun c116 => ?_) (fun c116 => absurd (rfl) c116)
          skip
          refine wq_l 134 d148_132 rfl rfl rfl rfl ?_
          refine wq_l 135 d148_134 rfl rfl rfl rfl ?_
          refine wq_b 160 138 d148_135 rfl (by decide) rfl (fun c135 => absurd c135 (by rw [i_le, ez, eyz]; omega)) (fun c135 => ?_)
          refine wq_l 139 d148_138 rfl rfl rfl rfl ?_
          refine wq_l 140 d148_139 rfl rfl rfl rfl ?_
          refine wq_v 143 [_] d148_140 rfl rfl m150 rfl rfl (Nat.le_of_ble_eq_true rfl) rfl (cr150n h ?_)
          refine wq_b 157 146 d148_143 rfl (by decide) rfl (fun c143 => absurd c143 (fun z => z rfl)) (fun c143 => ?_)
          refine wq_l 147 d148_146 rfl rfl rfl rfl ?_
          refine wq_l 149 d148_147 rfl rfl rfl rfl ?_
          refine wq_l 151 d148_149 rfl rfl rfl rfl ?_
          refine wq_v 154 [_, _] d148_151 rfl rfl m151 rfl rfl (Nat.le_of_ble_eq_true rfl) rfl (cr151 (c := y + rl_z l y) (y := y) hG h (by omega) (d8 rfl) d6 (fun z => (h9 z).1) ?_)
          refine wq_b 160 157 d148_154 rfl (by decide) rfl (fun c154 => ?_) (fun c154 => ?_)
          · -- pc 160
            have f154 := b2n c154
            rw [if_neg (fun z => z.2 c108)] at hQ1
            rw [if_neg (fun z => by
                have w154 := of_decide_eq_true f154
                rcases z with u | u
                · exact w154 (Or.inl u)
                · by_cases q : rl_k l y = 10
                  · exact w154 (Or.inl q)
                  · rw [dt8 q] at u; exact w154 (Or.inr u))] at hQ1
            refine fin h ?_ _
            rw [eAj]
            exact hQ1
          · -- pc 157
            have f154 := b2y c154
            refine wq_k 159 18 d148_157 (by decide) rfl ?_
            refine wq_ri d148_159 (rfl) ?_
            rw [if_neg (fun z => z.2 c108)] at hQ1
            rw [if_pos (by
                rcases Classical.not_not.mp (of_decide_eq_false f154) with u | u
                · exact Or.inl u
                · by_cases q : rl_k l y = 10
                  · exact Or.inl q
                  · rw [dt8 q]; exact Or.inr u)] at hQ1
            exact hQ1 _ _ h (fun z => absurd (show (18 : Nat) = 0 from z) (by decide))
        · -- pc 111
          have c108 : ¬ rl_k l y = 8 := fun z => c108 (by rw [z]; rfl)
          refine wq_k 113 43 d148_111 (by decide) rfl ?_
          refine wq_ri d148_113 (rfl) ?_
          rw [if_pos ⟨c94, c108⟩] at hQ1
          exact hQ1 _ _ h (fun z => absurd (show (43 : Nat) = 0 from z) (by decide))
    | false =>
      simp only [if_true, if_false, Bool.false_eq_true, true_and, false_and] at hQ1 d7
      refine wq_m m148 (Nat.le_of_ble_eq_true rfl) (by decide) rfl ?_
      refine wq_l 1 d148_0 rfl rfl rfl rfl ?_
      refine wq_k 2 1 d148_1 (by decide) rfl ?_
      refine wq_a 3 d148_2 rfl rfl ?_
      rw [nI_1]
      refine wq_s 4 d148_3 rfl rfl (Nat.le_of_ble_eq_true rfl) rfl rfl ?_
      refine wq_l 5 d148_4 rfl rfl rfl rfl ?_
      refine wq_gr (ci := 7) (j := 0) (q := 3) 8 d148_5 rfl rfl rfl rfl ?_
      refine wq_l 9 d148_8 rfl rfl rfl rfl ?_
      refine wq_v 12 [_] d148_9 rfl rfl m63 rfl rfl (Nat.le_of_ble_eq_true rfl) rfl (ck63 (cr_S h) hi ?_)
      refine wq_s 13 d148_12 rfl rfl (Nat.le_of_ble_eq_true rfl) rfl rfl ?_
      refine cr148l (mm := i + m + 1) hG h (fun j a b => d2 j a (by omega)) (by rw [← ey]; omega) (by omega) z1 ?_ m (i + 1) (by omega) (by omega)
      refine wq_l 38 d148_37 rfl rfl rfl rfl ?_
      refine wq_l 39 d148_38 rfl rfl rfl rfl ?_
      refine wq_a 40 d148_39 rfl rfl ?_
      refine wq_k 41 1 d148_40 (by decide) rfl ?_
      refine wq_a 42 d148_41 rfl rfl ?_
      rw [e39]
      refine wq_s 44 d148_42 rfl rfl (Nat.le_of_ble_eq_true rfl) rfl rfl ?_
      refine wq_l 45 d148_44 rfl rfl rfl rfl ?_
      refine wq_s 47 d148_45 rfl rfl (Nat.le_of_ble_eq_true rfl) rfl rfl ?_
      refine wq_l 48 d148_47 rfl rfl rfl rfl ?_
      refine wq_gr (ci := 7) (j := 0) (q := 3) 51 d148_48 rfl rfl rfl rfl ?_
      refine wq_l 52 d148_51 rfl rfl rfl rfl ?_
      refine wq_v 55 [_] d148_52 rfl rfl m65 rfl rfl (Nat.le_of_ble_eq_true rfl) rfl (ck65 (i := i + m + 1) (cr_S h) (by omega) ?_)
      refine wq_k 57 7 d148_55 (by decide) rfl ?_
      refine wq_b 66 60 d148_57 rfl (by decide) rfl (fun c57 => ?_) (fun c57 => absurd (fun z => by have : rl_k l (i + m + 1) = 7 := hp_inj (by rw [← ey]; omega) (by decide) z; rw [← ey] at this; omega) c57)
      refine wq_k 67 (-1) d148_66 (by decide) rfl ?_
      rw [show nI (i + m + 1) = nI y from by rw [ey]]
      refine wq_s 68 d148_67 rfl rfl (Nat.le_of_ble_eq_true rfl) rfl rfl ?_
      refine wq_l 69 d148_68 rfl rfl rfl rfl ?_
      refine wq_gr (ci := 7) (j := 0) (q := 3) 72 d148_69 rfl rfl rfl rfl ?_
      refine wq_l 74 d148_72 rfl rfl rfl rfl ?_
      refine wq_v 77 [_] d148_74 rfl rfl m63 rfl rfl (Nat.le_of_ble_eq_true rfl) rfl (ck63 (i := y) (cr_S h) d6 ?_)
      refine wq_s 79 d148_77 rfl rfl (Nat.le_of_ble_eq_true rfl) rfl rfl ?_
      refine wq_l 80 d148_79 rfl rfl rfl rfl ?_
      refine wq_gr (ci := 7) (j := 0) (q := 3) 83 d148_80 rfl rfl rfl rfl ?_
      refine wq_l 84 d148_83 rfl rfl rfl rfl ?_
      refine wq_gr (ci := 7) (j := 0) (q := 3) 87 d148_84 rfl rfl rfl rfl ?_
      refine wq_l 88 d148_87 rfl rfl rfl rfl ?_
      refine wq_v 91 [_] d148_88 rfl rfl m69 rfl rfl (Nat.le_of_ble_eq_true rfl) rfl (ck69 h hi hn ?_)
      rw [hsc, hp_os]
      refine wq_v 94 [_] d148_91 rfl rfl m66 rfl rfl (Nat.le_of_ble_eq_true rfl) rfl (ck66 (i := sc) (cr_S h) hsl ?_)
      rw [hpart]
      refine wq_b 114 97 d148_94 rfl (by decide) rfl (fun c94 => ?_) (fun c94 => ?_)
      · -- pc 114
        have c94 : part = 0 := hp_inj (by omega) (by decide) c94
        refine wq_l 115 d148_114 rfl rfl rfl rfl ?_
        refine wq_k 116 (-1) d148_115 (by decide) rfl ?_
        refine wq_b 132 119 d148_116 rfl (by decide) rfl (fun c116 => ?_) (fun c116 => absurd (rfl) c116)
        skip
        refine wq_l 134 d148_132 rfl rfl rfl rfl ?_
        refine wq_l 135 d148_134 rfl rfl rfl rfl ?_
        refine wq_b 160 138 d148_135 rfl (by decide) rfl (fun c135 => ?_) (fun c135 => absurd (by rw [i_le, ez, eyz]; omega) c135)
        rw [if_neg (fun z => z.1 c94)] at hQ1
        refine fin h ?_ _
        rw [eAj]
        exact hQ1
      · -- pc 97
        have c94 : ¬ part = 0 := fun z => c94 (by rw [z]; rfl)
        refine wq_l 98 d148_97 rfl rfl rfl rfl ?_
        refine wq_gr (ci := 7) (j := 0) (q := 3) 101 d148_98 rfl rfl rfl rfl ?_
        refine wq_l 103 d148_101 rfl rfl rfl rfl ?_
        refine wq_v 106 [_] d148_103 rfl rfl m65 rfl rfl (Nat.le_of_ble_eq_true rfl) rfl (ck65 (i := y) (cr_S h) d6 ?_)
        refine wq_k 108 8 d148_106 (by decide) rfl ?_
        refine wq_b 114 111 d148_108 rfl (by decide) rfl (fun c108 => ?_) (fun c108 => ?_)
        · -- pc 114
          have c108 : rl_k l y = 8 := hp_inj (by omega) (by decide) c108
          refine wq_l 115 d148_114 rfl rfl rfl rfl ?_
          refine wq_k 116 (-1) d148_115 (by decide) rfl ?_
          refine wq_b 132 119 d148_116 rfl (by decide) rfl (fun c116 => ?_) (fun c116 => absurd (rfl) c116)
          skip
          refine wq_l 134 d148_132 rfl rfl rfl rfl ?_
          refine wq_l 135 d148_134 rfl rfl rfl rfl ?_
          refine wq_b 160 138 d148_135 rfl (by decide) rfl (fun c135 => ?_) (fun c135 => absurd (by rw [i_le, ez, eyz]; omega) c135)
          rw [if_neg (fun z => z.2 c108)] at hQ1
          refine fin h ?_ _
          rw [eAj]
          exact hQ1
        · -- pc 111
          have c108 : ¬ rl_k l y = 8 := fun z => c108 (by rw [z]; rfl)
          refine wq_k 113 43 d148_111 (by decide) rfl ?_
          refine wq_ri d148_113 (rfl) ?_
          rw [if_pos ⟨c94, c108⟩] at hQ1
          exact hQ1 _ _ h (fun z => absurd (show (43 : Nat) = 0 from z) (by decide))
