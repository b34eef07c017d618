theorem d153_0 : decode prog_7_method_22_code 0 = .ok (.aload_n 0, 1) := by decide +kernel
theorem d153_1 : decode prog_7_method_22_code 1 = .ok (.getfield 9, 3) := by decide +kernel
theorem d153_4 : decode prog_7_method_22_code 4 = .ok (.iload 4, 2) := by decide +kernel
theorem d153_6 : decode prog_7_method_22_code 6 = .ok (.invokevirtual 95, 3) := by decide +kernel
theorem d153_9 : decode prog_7_method_22_code 9 = .ok (.istore 5, 2) := by decide +kernel
theorem d153_11 : decode prog_7_method_22_code 11 = .ok (.iload 5, 2) := by decide +kernel
theorem d153_13 : decode prog_7_method_22_code 13 = .ok (.bipush 10, 2) := by decide +kernel
theorem d153_15 : decode prog_7_method_22_code 15 = .ok (.if_icmp .ne 12, 3) := by decide +kernel
theorem d153_18 : decode prog_7_method_22_code 18 = .ok (.aload_n 0, 1) := by decide +kernel
theorem d153_19 : decode prog_7_method_22_code 19 = .ok (.iload 4, 2) := by decide +kernel
theorem d153_21 : decode prog_7_method_22_code 21 = .ok (.invokevirtual 170, 3) := by decide +kernel
theorem d153_24 : decode prog_7_method_22_code 24 = .ok (.goto 9, 3) := by decide +kernel
theorem d153_27 : decode prog_7_method_22_code 27 = .ok (.aload_n 0, 1) := by decide +kernel
theorem d153_28 : decode prog_7_method_22_code 28 = .ok (.iload 4, 2) := by decide +kernel
theorem d153_30 : decode prog_7_method_22_code 30 = .ok (.invokevirtual 225, 3) := by decide +kernel
theorem d153_33 : decode prog_7_method_22_code 33 = .ok (.istore 6, 2) := by decide +kernel
theorem d153_35 : decode prog_7_method_22_code 35 = .ok (.aload_n 0, 1) := by decide +kernel
theorem d153_36 : decode prog_7_method_22_code 36 = .ok (.getfield 9, 3) := by decide +kernel
theorem d153_39 : decode prog_7_method_22_code 39 = .ok (.aload_n 0, 1) := by decide +kernel
theorem d153_40 : decode prog_7_method_22_code 40 = .ok (.getfield 9, 3) := by decide +kernel
theorem d153_43 : decode prog_7_method_22_code 43 = .ok (.iload_n 1, 1) := by decide +kernel
theorem d153_44 : decode prog_7_method_22_code 44 = .ok (.invokevirtual 86, 3) := by decide +kernel
theorem d153_47 : decode prog_7_method_22_code 47 = .ok (.invokevirtual 110, 3) := by decide +kernel
theorem d153_50 : decode prog_7_method_22_code 50 = .ok (.iconst 1, 1) := by decide +kernel
theorem d153_51 : decode prog_7_method_22_code 51 = .ok (.if_icmp .ne 7, 3) := by decide +kernel
theorem d153_54 : decode prog_7_method_22_code 54 = .ok (.iconst 1, 1) := by decide +kernel
theorem d153_55 : decode prog_7_method_22_code 55 = .ok (.goto 4, 3) := by decide +kernel
theorem d153_58 : decode prog_7_method_22_code 58 = .ok (.iconst 0, 1) := by decide +kernel
theorem d153_59 : decode prog_7_method_22_code 59 = .ok (.istore 7, 2) := by decide +kernel
theorem d153_61 : decode prog_7_method_22_code 61 = .ok (.aload_n 0, 1) := by decide +kernel
theorem d153_62 : decode prog_7_method_22_code 62 = .ok (.getfield 29, 3) := by decide +kernel
theorem d153_65 : decode prog_7_method_22_code 65 = .ok (.invokevirtual 231, 3) := by decide +kernel
theorem d153_68 : decode prog_7_method_22_code 68 = .ok (.iload_n 2, 1) := by decide +kernel
theorem d153_69 : decode prog_7_method_22_code 69 = .ok (.isub, 1) := by decide +kernel
theorem d153_70 : decode prog_7_method_22_code 70 = .ok (.istore 8, 2) := by decide +kernel
theorem d153_72 : decode prog_7_method_22_code 72 = .ok (.iconst 0, 1) := by decide +kernel
theorem d153_73 : decode prog_7_method_22_code 73 = .ok (.istore 9, 2) := by decide +kernel
theorem d153_75 : decode prog_7_method_22_code 75 = .ok (.iload 9, 2) := by decide +kernel
theorem d153_77 : decode prog_7_method_22_code 77 = .ok (.iload_n 2, 1) := by decide +kernel
theorem d153_78 : decode prog_7_method_22_code 78 = .ok (.if_icmp .ge 104, 3) := by decide +kernel
theorem d153_81 : decode prog_7_method_22_code 81 = .ok (.iload_n 3, 1) := by decide +kernel
theorem d153_82 : decode prog_7_method_22_code 82 = .ok (.iconst (-1), 1) := by decide +kernel
theorem d153_83 : decode prog_7_method_22_code 83 = .ok (.if_icmp .eq 11, 3) := by decide +kernel
theorem d153_86 : decode prog_7_method_22_code 86 = .ok (.aload_n 0, 1) := by decide +kernel
theorem d153_87 : decode prog_7_method_22_code 87 = .ok (.iload_n 3, 1) := by decide +kernel
theorem d153_88 : decode prog_7_method_22_code 88 = .ok (.invokevirtual 196, 3) := by decide +kernel
theorem d153_91 : decode prog_7_method_22_code 91 = .ok (.goto 16, 3) := by decide +kernel
theorem d153_94 : decode prog_7_method_22_code 94 = .ok (.aload_n 0, 1) := by decide +kernel
theorem d153_95 : decode prog_7_method_22_code 95 = .ok (.getfield 19, 3) := by decide +kernel
theorem d153_98 : decode prog_7_method_22_code 98 = .ok (.aload_n 0, 1) := by decide +kernel
theorem d153_99 : decode prog_7_method_22_code 99 = .ok (.iload 4, 2) := by decide +kernel
theorem d153_101 : decode prog_7_method_22_code 101 = .ok (.invokevirtual 232, 3) := by decide +kernel
theorem d153_104 : decode prog_7_method_22_code 104 = .ok (.invokevirtual 101, 3) := by decide +kernel
theorem d153_107 : decode prog_7_method_22_code 107 = .ok (.istore 10, 2) := by decide +kernel
theorem d153_109 : decode prog_7_method_22_code 109 = .ok (.aload_n 0, 1) := by decide +kernel
theorem d153_110 : decode prog_7_method_22_code 110 = .ok (.getfield 29, 3) := by decide +kernel
theorem d153_113 : decode prog_7_method_22_code 113 = .ok (.iload 8, 2) := by decide +kernel
theorem d153_115 : decode prog_7_method_22_code 115 = .ok (.iload 9, 2) := by decide +kernel
theorem d153_117 : decode prog_7_method_22_code 117 = .ok (.iadd, 1) := by decide +kernel
theorem d153_118 : decode prog_7_method_22_code 118 = .ok (.iload 5, 2) := by decide +kernel
theorem d153_120 : decode prog_7_method_22_code 120 = .ok (.iload 6, 2) := by decide +kernel
theorem d153_122 : decode prog_7_method_22_code 122 = .ok (.iload 10, 2) := by decide +kernel
theorem d153_124 : decode prog_7_method_22_code 124 = .ok (.invokevirtual 138, 3) := by decide +kernel
theorem d153_127 : decode prog_7_method_22_code 127 = .ok (.aload_n 0, 1) := by decide +kernel
theorem d153_128 : decode prog_7_method_22_code 128 = .ok (.getfield 9, 3) := by decide +kernel
theorem d153_131 : decode prog_7_method_22_code 131 = .ok (.iload_n 1, 1) := by decide +kernel
theorem d153_132 : decode prog_7_method_22_code 132 = .ok (.iconst 1, 1) := by decide +kernel
theorem d153_133 : decode prog_7_method_22_code 133 = .ok (.iadd, 1) := by decide +kernel
theorem d153_134 : decode prog_7_method_22_code 134 = .ok (.iload 9, 2) := by decide +kernel
theorem d153_136 : decode prog_7_method_22_code 136 = .ok (.iadd, 1) := by decide +kernel
theorem d153_137 : decode prog_7_method_22_code 137 = .ok (.iload 10, 2) := by decide +kernel
theorem d153_139 : decode prog_7_method_22_code 139 = .ok (.invokevirtual 104, 3) := by decide +kernel
theorem d153_142 : decode prog_7_method_22_code 142 = .ok (.aload_n 0, 1) := by decide +kernel
theorem d153_143 : decode prog_7_method_22_code 143 = .ok (.iload_n 3, 1) := by decide +kernel
theorem d153_144 : decode prog_7_method_22_code 144 = .ok (.invokevirtual 215, 3) := by decide +kernel
theorem d153_147 : decode prog_7_method_22_code 147 = .ok (.ifCond .eq 15, 3) := by decide +kernel
theorem d153_150 : decode prog_7_method_22_code 150 = .ok (.aload_n 0, 1) := by decide +kernel
theorem d153_151 : decode prog_7_method_22_code 151 = .ok (.getfield 29, 3) := by decide +kernel
theorem d153_154 : decode prog_7_method_22_code 154 = .ok (.iload 8, 2) := by decide +kernel
theorem d153_156 : decode prog_7_method_22_code 156 = .ok (.iload 9, 2) := by decide +kernel
theorem d153_158 : decode prog_7_method_22_code 158 = .ok (.iadd, 1) := by decide +kernel
theorem d153_159 : decode prog_7_method_22_code 159 = .ok (.invokevirtual 235, 3) := by decide +kernel
theorem d153_162 : decode prog_7_method_22_code 162 = .ok (.iload 7, 2) := by decide +kernel
theorem d153_164 : decode prog_7_method_22_code 164 = .ok (.ifCond .eq 12, 3) := by decide +kernel
theorem d153_167 : decode prog_7_method_22_code 167 = .ok (.aload_n 0, 1) := by decide +kernel
theorem d153_168 : decode prog_7_method_22_code 168 = .ok (.getfield 19, 3) := by decide +kernel
theorem d153_171 : decode prog_7_method_22_code 171 = .ok (.iload 6, 2) := by decide +kernel
theorem d153_173 : decode prog_7_method_22_code 173 = .ok (.invokevirtual 238, 3) := by decide +kernel
theorem d153_176 : decode prog_7_method_22_code 176 = .ok (.iinc 9 1, 3) := by decide +kernel
theorem d153_179 : decode prog_7_method_22_code 179 = .ok (.goto (-104), 3) := by decide +kernel
theorem d153_182 : decode prog_7_method_22_code 182 = .ok (.return_, 1) := by decide +kernel
theorem m153 : pm_m 153 = some (⟨"TypeRules$Rules", "settle", "(IIII)V"⟩, prog_7_method_22_code, 11, none, 7, 4, 8) := rfl
/-! A DECLARATION SETTLES its variables, in the class -/
theorem sp67 {d : Nat} {σ : pm_S} {Q : Option Value → pm_S → Prop} {l : List pg_N} {i : Nat} {x : Int32} (hS : ct_Z l σ) (hi : i < l.length) (hQ : Q none (pm_pr σ 25 (upd (σ.2.2 25) i x))) : pm_call pm_Y0 (d + 1) 67 [.ref 3, .int (nI i), .int x] σ Q := by
  obtain ⟨e1, e2, e3⟩ := ct_in hS hi
  have hl := hS.1
  have e5 := hS.2.2.1
  have ei := nI_toInt (n := i) (by omega)
  have el := nI_toInt (n := l.length) (by omega)
  refine wq_m m67 (Nat.le_of_ble_eq_true rfl) (by decide) rfl ?_
  refine wq_l 1 d67_0 rfl rfl rfl rfl ?_
  refine wq_b 19 4 d67_1 rfl (by decide) rfl (fun c1 => absurd c1 (by rw [i_lt, ei]; show ¬ (i : Int) < 0; omega)) (fun c1 => ?_)
  refine wq_l 5 d67_4 rfl rfl rfl rfl ?_
  refine wq_l 6 d67_5 rfl rfl rfl rfl ?_
  refine wq_gi (ci := 3) (j := 8) 9 d67_6 rfl rfl rfl rfl ?_
  refine wq_b 19 12 d67_9 rfl (by decide) rfl (fun c9 => absurd c9 (by rw [e5, i_le, ei, el]; omega)) (fun c9 => ?_)
  refine wq_l 13 d67_12 rfl rfl rfl rfl ?_
  refine wq_gr (ci := 3) (j := 6) (q := 25) 16 d67_13 rfl rfl rfl rfl ?_
  refine wq_l 17 d67_16 rfl rfl rfl rfl ?_
  refine wq_l 18 d67_17 rfl rfl rfl rfl ?_
  refine wq_as 19 d67_18 rfl rfl rfl (vp_in_iff.mpr (by rw [ei]; omega)) ?_
  refine wq_rv d67_19 ?_
  rw [e1]
  exact hQ
theorem ck150 {d : Nat} {σ : pm_S} {Q : Option Value → pm_S → Prop} {l : List pg_N} {NN p : Nat} (hG : lg_G l NN) (h : ct_Z l σ) (hi : p < l.length) (hk : rl_k l p = 7) (hQ : Q (some (.int (b2 (decide (rl_area (rl_v l p) % 3 = 0))))) σ) : pm_call pm_Y0 (d + 2) 150 [.ref 7, .int (nI p)] σ Q := by
  obtain ⟨a, o, ha, ho, h3, hv⟩ := lg_7 hG hi hk
  have ea := nI_toInt (n := a) (by omega)
  have hl := h.1
  rw [hv, pl_ar ha ho] at hQ
  refine wq_m m150 (Nat.le_of_ble_eq_true rfl) (by decide) rfl ?_
  refine wq_l 1 d150_0 rfl rfl rfl rfl ?_
  refine wq_gr (ci := 7) (j := 0) (q := 3) 4 d150_1 rfl rfl rfl rfl ?_
  refine wq_l 5 d150_4 rfl rfl rfl rfl ?_
  refine wq_v 8 [_] d150_5 rfl rfl m66 rfl rfl (Nat.le_of_ble_eq_true rfl) rfl (ck66 h hi ?_)
  rw [hv]
  refine wq_k 10 8 d150_8 (by decide) rfl ?_
  refine wq_a 11 d150_10 rfl rfl ?_
  rw [pl_8 ha ho]
  refine wq_s 12 d150_11 rfl rfl (Nat.le_of_ble_eq_true rfl) rfl rfl ?_
  refine wq_l 13 d150_12 rfl rfl rfl rfl ?_
  refine wq_k 14 (-1) d150_13 (by decide) rfl ?_
  refine wq_b 30 17 d150_14 rfl (by decide) rfl (fun c14 => absurd c14 (hp_ne (by omega))) (fun c14 => ?_)
  refine wq_l 18 d150_17 rfl rfl rfl rfl ?_
  refine wq_b 26 21 d150_18 rfl (by decide) rfl (fun c18 => ?_) (fun c18 => ?_)
  · -- pc 26
    refine wq_k 27 1 d150_26 (by decide) rfl ?_
    refine wq_g 31 d150_27 (by decide) ?_
    refine wq_ri d150_31 (rfl) ?_
    have c18 : a = 0 := hp_inj (b := 0) (by omega) (by decide) c18
    rw [decide_eq_true (by rw [c18])] at hQ
    exact hQ
  · -- pc 21
    refine wq_l 22 d150_21 rfl rfl rfl rfl ?_
    refine wq_k 23 3 d150_22 (by decide) rfl ?_
    refine wq_b 30 26 d150_23 rfl (by decide) rfl (fun c23 => ?_) (fun c23 => ?_)
    · -- pc 30
      refine wq_k 31 0 d150_30 (by decide) rfl ?_
      refine wq_ri d150_31 (rfl) ?_
      rw [decide_eq_false (fun z => ?_)] at hQ
      · exact hQ
      · have u : a = 0 ∨ a = 3 := by omega
        rcases u with w | w
        · exact c18 (by rw [w]; rfl)
        · exact c23 (by rw [w]; rfl)
    · -- pc 26
      refine wq_k 27 1 d150_26 (by decide) rfl ?_
      refine wq_g 31 d150_27 (by decide) ?_
      refine wq_ri d150_31 (rfl) ?_
      have c23 : a = 3 := hp_inj (b := 3) (by omega) (by decide) (Classical.not_not.mp c23)
      rw [decide_eq_true (by rw [c23])] at hQ
      exact hQ
theorem ck150n {d : Nat} {σ : pm_S} {Q : Option Value → pm_S → Prop} {l : List pg_N} (h : ct_Z l σ) (hQ : Q (some (.int 0)) σ) : pm_call pm_Y0 (d + 2) 150 [.ref 7, .int (-1)] σ Q := by
  refine wq_m m150 (Nat.le_of_ble_eq_true rfl) (by decide) rfl ?_
  refine wq_l 1 d150_0 rfl rfl rfl rfl ?_
  refine wq_gr (ci := 7) (j := 0) (q := 3) 4 d150_1 rfl rfl rfl rfl ?_
  refine wq_l 5 d150_4 rfl rfl rfl rfl ?_
  refine wq_v 8 [_] d150_5 rfl rfl m66 rfl rfl (Nat.le_of_ble_eq_true rfl) rfl (ck66n h ?_)
  refine wq_k 10 8 d150_8 (by decide) rfl ?_
  refine wq_a 11 d150_10 rfl rfl ?_
  refine wq_s 12 d150_11 rfl rfl (Nat.le_of_ble_eq_true rfl) rfl rfl ?_
  refine wq_l 13 d150_12 rfl rfl rfl rfl ?_
  refine wq_k 14 (-1) d150_13 (by decide) rfl ?_
  refine wq_b 30 17 d150_14 rfl (by decide) rfl (fun c14 => ?_) (fun c14 => absurd (rfl) c14)
  refine wq_k 31 0 d150_30 (by decide) rfl ?_
  refine wq_ri d150_31 (rfl) ?_
  exact hQ
def rl_sj (s : Nat) (t at_ : Int32) (f z m j : Nat) (vs : List rl_V) : List rl_V := vs.take (m - j) ++ rl_settle s t at_ f z j (vs.drop (m - j))
theorem rl_sel (s : Nat) (t at_ : Int32) (f z : Nat) : ∀ (j : Nat) (vs : List rl_V), (rl_settle s t at_ f z j vs).length = vs.length
  | 0, vs => rfl
  | j + 1, [] => rfl
  | j + 1, v :: vs => by
    show (_ :: rl_settle s t at_ f z j vs).length = _
    rw [List.length_cons, rl_sel s t at_ f z j vs, List.length_cons]
def rl_yj (s : Nat) (t at_ : Int32) (z m j : Nat) (y : rl_B) : rl_B := (y.1, y.2.1, y.2.2.1, (if at_ = -1 then y.2.2.2.1 + j * z else y.2.2.2.1), rl_sj s t at_ y.2.2.2.1 z m j y.2.2.2.2)
def rl_cj (at_ : Int32) (f z i j : Nat) (C : Nat → Int32) : Nat → Int32 := fun c => if i < c ∧ c ≤ i + j then nI (if at_ = -1 then f + (c - i - 1) * z else rl_img at_) else C c
def rl_Aj (s : Nat) (t at_ : Int32) (z m i j : Nat) (y : rl_B) (r : List rl_B) (T : (Nat → Int32) × (Nat → Int32) × (Nat → Int32)) : rl_A := (rl_yj s t at_ z m j y :: r, T.1, rl_cj at_ y.2.2.2.1 z i j T.2.1, T.2.2)
/-- the variable that is settled next -/
theorem rl_sjs {s : Nat} {t at_ : Int32} {f z m j : Nat} {vs : List rl_V} (hj : j < m) (hm : m ≤ vs.length) : ∃ v, vs[m - j - 1]? = some v ∧ rl_sj s t at_ f z m j vs = vs.take (m - j - 1) ++ v :: rl_settle s t at_ f z j (vs.drop (m - j)) ∧ rl_sj s t at_ f z m (j + 1) vs = vs.take (m - j - 1) ++ (v.1, s, t, v.2.2.2.1, at_, if at_ = -1 then f + j * z else rl_img at_) :: rl_settle s t at_ f z j (vs.drop (m - j)) := by
  have hl : m - j - 1 < vs.length := by omega
  have e1 : vs[m - j - 1]? = some (vs[m - j - 1]'hl) := List.getElem?_eq_getElem hl
  have e2 : vs.drop (m - j - 1) = vs[m - j - 1]'hl :: vs.drop (m - j) := by
    rw [List.drop_eq_getElem_cons hl, show m - j - 1 + 1 = m - j by omega]
  have e3 : vs.take (m - j) = vs.take (m - j - 1) ++ [vs[m - j - 1]'hl] := by
    conv => lhs; rw [show m - j = (m - j - 1) + 1 by omega]
    rw [List.take_succ_eq_append_getElem hl]
  refine ⟨_, e1, ?_, ?_⟩
  · unfold rl_sj
    rw [e3, List.append_assoc]
    rfl
  · unfold rl_sj
    rw [show m - (j + 1) = m - j - 1 by omega, e2]
    rfl
theorem rl_insa {y : rl_B} {a c : List rl_V} (h : y.2.2.2.2 = a ++ c) (ha : ∀ v ∈ a, v.2.1 = 3) : rl_ins y = ((c.filter rl_isin).map (fun v => v.2.2.1)).reverse := by
  unfold rl_ins
  rw [h, List.filter_append, List.filter_eq_nil_iff.mpr, List.nil_append]
  intro v hv
  unfold rl_isin
  rw [ha v hv]
  simp
theorem rl_zzh {l : List pg_N} {y y' : rl_B} {r : List rl_B} {c : Nat} : rl_zz l (y' :: r) c = rl_zz l (y :: r) c := by
  unfold rl_zz
  have e : ∀ x, rl_inst (y' :: r) x = rl_inst (y :: r) x := fun x => rfl
  rw [e]
  by_cases k8 : rl_k l c = 8
  · rw [if_pos k8, if_pos k8]
  · rw [if_neg k8, if_neg k8]
    by_cases k9 : rl_k l c = 9
    · rw [if_pos k9, if_pos k9]
    · rw [if_neg k9, if_neg k9]
      cases h : rl_inst (y :: r) (rl_v l c) with
      | none => rfl
      | some q =>
        show (if q < 9 then rl_ssz q else ((rl_blk (y' :: r) (q - 9)).getD (0, -1, 0, 0, [])).2.2.2.1) = (if q < 9 then rl_ssz q else ((rl_blk (y :: r) (q - 9)).getD (0, -1, 0, 0, [])).2.2.2.1)
        by_cases w : q < 9
        · rw [if_pos w, if_pos w]
        · rw [if_neg w, if_neg w]
          rcases rl_instl h with u | ⟨_, z, _, _, _, u⟩
          · exact absurd u w
          · rw [List.length_cons] at u
            rw [rl_blkc, rl_blkc, if_neg (by omega), if_neg (by omega)]
theorem cb_kdh {y y' : rl_B} {r : List rl_B} (h : y'.1 = y.1) (q : Nat) : cb_kd (y' :: r) q = cb_kd (y :: r) q := by
  unfold cb_kd
  by_cases w : q < 9
  · rw [if_pos w, if_pos w]
  · rw [if_neg w, if_neg w, rl_blkc, rl_blkc]
    by_cases u : q - 9 = r.length
    · rw [if_pos u, if_pos u]; exact h
    · rw [if_neg u, if_neg u]
/-- one variable more is settled -/
theorem cr_sjn {l : List pg_N} {NN nx : Nat} {σ0 σ τ : pm_S} {s : Nat} {t at_ : Int32} {z m i j idx : Nat} {y : rl_B} {r : List rl_B} {T : (Nat → Int32) × (Nat → Int32) × (Nat → Int32)} {inp : Prop} (hR : cr_I l NN σ0 σ nx (rl_Aj s t at_ z m i j y r T)) (hj : j < m) (hm : m ≤ y.2.2.2.2.length) (hu : ∀ (k : Nat) (v : rl_V), k < m → y.2.2.2.2[k]? = some v → v.2.1 = 3 ∧ v.2.2.2.2.1 = at_) (hs : s ≤ 2) (hinp : inp ↔ (at_ ≠ -1 ∧ rl_area at_ % 3 = 0)) (hidx : idx = (cv_L r).length + (y.2.2.2.2.length - (m - j))) (hcc : cc_F σ0 τ) (h23 : τ.2.2 23 = σ.2.2 23) (h24 : τ.2.2 24 = σ.2.2 24) (h26 : τ.2.2 26 = σ.2.2 26) (h25 : τ.2.2 25 = upd (σ.2.2 25) (i + 1 + j) (nI (if at_ = -1 then y.2.2.2.1 + j * z else rl_img at_))) (h34 : τ.2.2 34 = σ.2.2 34) (h35 : τ.2.2 35 = σ.2.2 35) (h36 : τ.2.2 36 = σ.2.2 36) (h37 : τ.2.2 37 = σ.2.2 37) (h38 : τ.2.2 38 = upd (σ.2.2 38) idx (nI (8 + s))) (h39 : τ.2.2 39 = upd (σ.2.2 39) idx t) (h40 : τ.2.2 40 = upd (σ.2.2 40) idx (nI (if at_ = -1 then y.2.2.2.1 + j * z else rl_img at_))) (h41a : inp → τ.2.2 41 = upd (σ.2.2 41) idx 1) (h41b : ¬ inp → τ.2.2 41 = σ.2.2 41) (h42 : τ.2.2 42 = σ.2.2 42) (h68 : τ.1 6 8 = σ.1 6 8) (hcb : cb_I l NN (rl_yj s t at_ z m (j + 1) y :: r) τ) : cr_I l NN σ0 τ nx (rl_Aj s t at_ z m i (j + 1) y r T) := by
  obtain ⟨q1, q2, q3, q4, q5, q6, q7⟩ := hR
  obtain ⟨v, v1, v2, v3⟩ := rl_sjs (s := s) (t := t) (at_ := at_) (f := y.2.2.2.1) (z := z) hj hm
  obtain ⟨u1, u2⟩ := hu _ v (by omega) v1
  have lc : (rl_settle s t at_ y.2.2.2.1 z j (y.2.2.2.2.drop (m - j))).length = y.2.2.2.2.length - (m - j) := by rw [rl_sel, List.length_drop]
  have ix : (cv_L r).length + (rl_settle s t at_ y.2.2.2.1 z j (y.2.2.2.2.drop (m - j))).length = idx := by rw [lc, hidx]
  refine ⟨q1, q2, hcc, ?_, hcb, ?_, ?_⟩
  · intro c hc
    obtain ⟨a1, a2, a3, a4⟩ := q4 c hc
    refine ⟨fun hn => by rw [h23]; exact a1 hn, by rw [h24]; exact a2, ?_, by rw [h26]; exact a4⟩
    rw [h25, upd_if]
    show _ = rl_cj at_ y.2.2.2.1 z i (j + 1) T.2.1 c
    have a3 : σ.2.2 25 c = rl_cj at_ y.2.2.2.1 z i j T.2.1 c := a3
    unfold rl_cj at a3 ⊢
    by_cases w : c = i + 1 + j
    · rw [if_pos w, if_pos (show i < c ∧ c ≤ i + (j + 1) by omega), w, show i + 1 + j - i - 1 = j by omega]
    · rw [if_neg w, a3]
      by_cases w2 : i < c ∧ c ≤ i + j
      · rw [if_pos w2, if_pos (show i < c ∧ c ≤ i + (j + 1) by omega)]
      · rw [if_neg w2, if_neg (show ¬ (i < c ∧ c ≤ i + (j + 1)) by omega)]
  · have hat := (cv_at0 (y := rl_yj s t at_ z m j y) q6 v2).1
    rw [ix] at hat
    refine cv_vs (y := rl_yj s t at_ z m j y) (y' := rl_yj s t at_ z m (j + 1) y) q6 v2 v3 rfl h68 ⟨h34, h35, h36, h37⟩ (fun k hk => ?_) ?_
    · rw [ix] at hk
      rw [h38, h39, h40, upd_if, upd_if, upd_if, if_neg hk, if_neg hk, if_neg hk]
      refine ⟨rfl, rfl, rfl, ?_⟩
      by_cases w : inp
      · rw [h41a w, upd_if, if_neg hk]
      · rw [h41b w]
    · rw [ix]
      unfold cv_at at hat ⊢
      refine ⟨⟨hat.1.1, by show s ≤ 3; omega⟩, by rw [h37]; exact hat.2.1, ?_, fun _ => ⟨?_, ?_, ?_⟩⟩
      · have hs3 : s ≠ 3 := by omega
        by_cases w : inp
        · rw [h41a w, upd_if, if_pos rfl]
          have : rl_ro (v.1, s, t, v.2.2.2.1, at_, if at_ = -1 then y.2.2.2.1 + j * z else rl_img at_) = true := by
            unfold rl_ro
            exact decide_eq_true (Or.inr ⟨hs3, hinp.mp w⟩)
          rw [this]
          rfl
        · rw [h41b w, hat.2.2.1]
          congr 1
          unfold rl_ro
          rw [u1]
          have nw : ¬ (at_ ≠ -1 ∧ rl_area at_ % 3 = 0) := fun z => w (hinp.mpr z)
          by_cases w2 : v.2.2.2.1 = 1
          · rw [decide_eq_true (Or.inl w2), decide_eq_true (Or.inl w2)]
          · rw [decide_eq_false (fun z => z.elim w2 (fun z => z.1 rfl)), decide_eq_false (fun z => z.elim w2 (fun z => nw z.2))]
      · rw [h38, upd_if, if_pos rfl]
      · rw [h39, upd_if, if_pos rfl]
      · rw [h40, upd_if, if_pos rfl]
  · intro c hc
    have Pc := q7 c hc
    rw [h42]
    refine ⟨Pc.1, Pc.2.trans ?_⟩
    show (∃ w ∈ rl_sj s t at_ y.2.2.2.1 z m j y.2.2.2.2, w.2.2.2.2.1 ≠ -1 ∧ rl_img w.2.2.2.2.1 = c) ↔ (∃ w ∈ rl_sj s t at_ y.2.2.2.1 z m (j + 1) y.2.2.2.2, w.2.2.2.2.1 ≠ -1 ∧ rl_img w.2.2.2.2.1 = c)
    rw [v2, v3]
    constructor
    · rintro ⟨w, m1, m2, m3⟩
      rcases List.mem_append.mp m1 with a | a
      · exact ⟨w, List.mem_append_left _ a, m2, m3⟩
      · rcases List.mem_cons.mp a with b | b
        · refine ⟨_, List.mem_append_right _ (List.mem_cons_self ..), ?_⟩
          rw [b, u2] at m2 m3
          exact ⟨m2, m3⟩
        · exact ⟨w, List.mem_append_right _ (List.mem_cons_of_mem _ b), m2, m3⟩
    · rintro ⟨w, m1, m2, m3⟩
      rcases List.mem_append.mp m1 with a | a
      · exact ⟨w, List.mem_append_left _ a, m2, m3⟩
      · rcases List.mem_cons.mp a with b | b
        · refine ⟨v, List.mem_append_right _ (List.mem_cons_self ..), ?_⟩
          rw [b] at m2 m3
          rw [u2]
          exact ⟨m2, m3⟩
        · exact ⟨w, List.mem_append_right _ (List.mem_cons_of_mem _ b), m2, m3⟩
