theorem d226_0 : decode prog_14_method_30_code 0 = .ok (.aload_n 0, 1) := by decide +kernel
theorem d226_1 : decode prog_14_method_30_code 1 = .ok (.iload_n 2, 1) := by decide +kernel
theorem d226_2 : decode prog_14_method_30_code 2 = .ok (.iload_n 3, 1) := by decide +kernel
theorem d226_3 : decode prog_14_method_30_code 3 = .ok (.iload 4, 2) := by decide +kernel
theorem d226_5 : decode prog_14_method_30_code 5 = .ok (.invokevirtual 324, 3) := by decide +kernel
theorem d226_8 : decode prog_14_method_30_code 8 = .ok (.istore 5, 2) := by decide +kernel
theorem d226_10 : decode prog_14_method_30_code 10 = .ok (.aload_n 0, 1) := by decide +kernel
theorem d226_11 : decode prog_14_method_30_code 11 = .ok (.iload_n 1, 1) := by decide +kernel
theorem d226_12 : decode prog_14_method_30_code 12 = .ok (.iload 5, 2) := by decide +kernel
theorem d226_14 : decode prog_14_method_30_code 14 = .ok (.invokevirtual 328, 3) := by decide +kernel
theorem d226_17 : decode prog_14_method_30_code 17 = .ok (.iload 5, 2) := by decide +kernel
theorem d226_19 : decode prog_14_method_30_code 19 = .ok (.ireturn, 1) := by decide +kernel
theorem m226 : pm_m 226 = some (⟨"TypeRulesModel", "makeIn", "(IIII)I"⟩, prog_14_method_30_code, 6, (some FieldType.int), 10, 4, 11) := rfl
/-! THE HEAP in the state: nodes nn, children K -/
def rh_K (σ : pm_S) (nn : Nat) (K : Nat → List Nat) : Prop := σ.1 10 15 = nI nn ∧ nn ≤ 20000 ∧ hp_I (σ.2.2 52) (σ.2.2 53) (σ.2.2 54) (σ.2.2 55) nn K ∧ ∀ a, a < nn → σ.2.2 56 a = -1 ∧ σ.2.2 57 a = -1 ∧ σ.2.2 58 a = -1
theorem upd_if {f : Nat → Int32} {k : Nat} {x : Int32} (a : Nat) : upd f k x a = if a = k then x else f a := rfl
theorem rh_mk {σ : pm_S} {nn : Nat} {K : Nat → List Nat} {x y z : Int32} (h : rh_K σ nn K) (hn : nn < 20000) : rh_K (rm_mk σ nn x y z) (nn + 1) (hp_k K nn []) := by
  obtain ⟨h1, h2, h3, h4⟩ := h
  refine ⟨rfl, by omega, hp_mk h3 (fun a => rfl) (fun a => rfl) (fun a => rfl) (fun a => rfl), fun a ha => ?_⟩
  show upd (σ.2.2 56) nn (-1) a = -1 ∧ upd (σ.2.2 57) nn (-1) a = -1 ∧ upd (σ.2.2 58) nn (-1) a = -1
  by_cases q : a = nn
  · subst q; rw [pk_us, pk_us, pk_us]; exact ⟨rfl, rfl, rfl⟩
  · rw [pk_un q, pk_un q, pk_un q]; exact h4 a (by omega)
/-- all but the links of nodes is kept -/
def rh_F (σ σ' : pm_S) : Prop := σ'.1 = σ.1 ∧ σ'.2.1 = σ.2.1 ∧ ∀ k, (52 ≤ k ∧ k ≤ 55) ∨ σ'.2.2 k = σ.2.2 k
theorem rh_Fr {σ : pm_S} {k : Nat} {f : Nat → Int32} (hk : 52 ≤ k ∧ k ≤ 55) : rh_F σ (pm_pr σ k f) := ⟨rfl, rfl, fun j => by by_cases q : j = k; (left; omega); (right; exact pm_rne q)⟩
theorem rh_Ft {σ σ1 σ2 : pm_S} (h : rh_F σ σ1) (h2 : rh_F σ1 σ2) : rh_F σ σ2 := ⟨h2.1.trans h.1, h2.2.1.trans h.2.1, fun k => by
  rcases h2.2.2 k with z | z
  · exact Or.inl z
  · rcases h.2.2 k with y | y
    · exact Or.inl y
    · exact Or.inr (z.trans y)⟩
theorem sp227 {d : Nat} {σ : pm_S} {Q : Option Value → pm_S → Prop} {nn to ch : Nat} {K : Nat → List Nat} (hH : rh_K σ nn K) (ht : to < nn) (hc : ch < nn) (hno : ∀ a, a < nn → ch ∉ K a) (hQ : ∀ σ', rh_K σ' nn (hp_k K to (K to ++ [ch])) → rh_F σ σ' → Q none σ') : pm_call pm_Y0 (d + 1) 227 [.ref 10, .int (nI to), .int (nI ch)] σ Q := by
  obtain ⟨h1, h2, h3, h4⟩ := hH
  have hh := h3
  obtain ⟨i1, i2, i3⟩ := hh
  have et := nI_toInt (n := to) (by omega)
  have ec := nI_toInt (n := ch) (by omega)
  have tk := nI_clamp (n := to) (by omega)
  have ck := nI_clamp (n := ch) (by omega)
  have hF0 := (i1 to ht).1
  have hL0 := (i1 to ht).2
  have hemp : σ.2.2 52 to < 0 → K to = [] := fun z => by
    cases e : K to with
    | nil => rfl
    | cons x l =>
      exfalso
      rw [hF0, e] at z
      have hx := (i2 to ht 0 x (by rw [e]; rfl)).1
      exact absurd z (nI_pos (show x < 2 ^ 31 by omega))
  have hfull : ¬ σ.2.2 52 to < 0 → ∃ e, (K to).getLast? = some e ∧ e < nn ∧ σ.2.2 53 to = nI e := fun z => by
    cases e : (K to).getLast? with
    | none =>
      exfalso
      rw [List.getLast?_eq_none_iff.mp e] at hF0
      rw [hF0] at z
      exact absurd (by decide) z
    | some x =>
      have hx := e
      rw [List.getLast?_eq_getElem?] at hx
      refine ⟨x, rfl, (i2 to ht _ x hx).1, ?_⟩
      rw [hL0, e]
      rfl
  have fin : ∀ σ', σ'.1 = σ.1 → (∀ a, σ'.2.2 52 a = if a = to ∧ K to = [] then nI ch else σ.2.2 52 a) → (∀ a, σ'.2.2 54 a = if some a = (K to).getLast? then nI ch else σ.2.2 54 a) → (∀ a, σ'.2.2 53 a = if a = to then nI ch else σ.2.2 53 a) → (∀ a, σ'.2.2 55 a = if a = ch then nI to else σ.2.2 55 a) → rh_F σ σ' → Q none σ' := fun σ' e1 e2 e3 e4 e5 e6 => hQ σ' ⟨by rw [e1]; exact h1, h2, hp_ad (by omega) h3 ht hc hno e2 e3 e4 e5, fun a ha => by
    rw [(e6.2.2 56).resolve_left (by omega), (e6.2.2 57).resolve_left (by omega), (e6.2.2 58).resolve_left (by omega)]
    exact h4 a ha⟩ e6
  clear hQ
  refine wq_m m227 (Nat.le_of_ble_eq_true rfl) (by decide) rfl ?_
  refine wq_l 1 d227_0 rfl rfl rfl rfl ?_
  refine wq_gr (ci := 10) (j := 22) (q := 55) 4 d227_1 rfl rfl rfl rfl ?_
  refine wq_l 5 d227_4 rfl rfl rfl rfl ?_
  refine wq_l 6 d227_5 rfl rfl rfl rfl ?_
  refine wq_as 7 d227_6 rfl rfl rfl (vp_in_iff.mpr (by simp only [i_lt, i_le, i_eq, ne_eq, Int32.reduceToInt, b2_0, b2_1, decide_eq_true_eq, decide_eq_false_iff_not, Bool.not_eq_true, Bool.not_eq_false, ec] at * <;> omega)) ?_
  rw [ck]
  refine wq_l 8 d227_7 rfl rfl rfl rfl ?_
  refine wq_gr (ci := 10) (j := 19) (q := 52) 11 d227_8 rfl rfl rfl rfl ?_
  refine wq_l 12 d227_11 rfl rfl rfl rfl ?_
  refine wq_al 13 d227_12 rfl rfl rfl (vp_in_iff.mpr (by simp only [i_lt, i_le, i_eq, ne_eq, Int32.reduceToInt, b2_0, b2_1, decide_eq_true_eq, decide_eq_false_iff_not, Bool.not_eq_true, Bool.not_eq_false, et] at * <;> omega)) ?_
  rw [tk, pm_rne (a := 52) (q := 55) (by decide)]
  refine wq_b 26 16 d227_13 rfl (by decide) rfl (fun c13 => ?_) (fun c13 => ?_)
  · -- pc 26
    obtain ⟨e, g1, g2, g3⟩ := hfull (by simpa using c13)
    have ee := nI_toInt (n := e) (by omega)
    refine wq_l 27 d227_26 rfl rfl rfl rfl ?_
    refine wq_gr (ci := 10) (j := 21) (q := 54) 30 d227_27 rfl rfl rfl rfl ?_
    refine wq_l 31 d227_30 rfl rfl rfl rfl ?_
    refine wq_gr (ci := 10) (j := 20) (q := 53) 34 d227_31 rfl rfl rfl rfl ?_
    refine wq_l 35 d227_34 rfl rfl rfl rfl ?_
    refine wq_al 36 d227_35 rfl rfl rfl (vp_in_iff.mpr (by simp only [i_lt, i_le, i_eq, ne_eq, Int32.reduceToInt, b2_0, b2_1, decide_eq_true_eq, decide_eq_false_iff_not, Bool.not_eq_true, Bool.not_eq_false, et] at * <;> omega)) ?_
    rw [tk, pm_rne (a := 53) (q := 55) (by decide), g3]
    refine wq_l 37 d227_36 rfl rfl rfl rfl ?_
    refine wq_as 38 d227_37 rfl rfl rfl (vp_in_iff.mpr (by simp only [i_lt, i_le, i_eq, ne_eq, Int32.reduceToInt, b2_0, b2_1, decide_eq_true_eq, decide_eq_false_iff_not, Bool.not_eq_true, Bool.not_eq_false, ee] at * <;> omega)) ?_
    first | rw [nI_clamp (n := e) (by omega), pm_rne (a := 54) (q := 55) (by decide)] | skip
    refine wq_l 39 d227_38 rfl rfl rfl rfl ?_
    refine wq_gr (ci := 10) (j := 20) (q := 53) 42 d227_39 rfl rfl rfl rfl ?_
    refine wq_l 43 d227_42 rfl rfl rfl rfl ?_
    refine wq_l 44 d227_43 rfl rfl rfl rfl ?_
    refine wq_as 45 d227_44 rfl rfl rfl (vp_in_iff.mpr (by simp only [i_lt, i_le, i_eq, ne_eq, Int32.reduceToInt, b2_0, b2_1, decide_eq_true_eq, decide_eq_false_iff_not, Bool.not_eq_true, Bool.not_eq_false, et] at * <;> omega)) ?_
    first
      | (rw [tk, pm_rne (a := 53) (q := 52) (by decide), pm_rne (a := 53) (q := 55) (by decide)]
         refine wq_rv d227_45 (fin _ rfl (fun a => ?_) (fun a => ?_) (fun a => ?_) (fun a => ?_) (rh_Ft (rh_Ft (rh_Fr (by decide)) (rh_Fr (by decide))) (rh_Fr (by decide))))
         · rw [pm_rne (by decide), pm_r22, upd_if]
           by_cases q : a = to
           · rw [if_pos q, if_pos ⟨q, he⟩]; rfl
           · rw [if_neg q, if_neg (fun z => q z.1)]
         · rw [pm_rne (by decide), pm_rne (by decide), pm_rne (by decide), if_neg (by rw [he]; exact fun z => by cases z)]
         · rw [pm_r22, upd_if]; rfl
         · rw [pm_rne (by decide), pm_rne (by decide), pm_r22, upd_if]; rfl)
      | (rw [tk, pm_rne (a := 53) (q := 54) (by decide), pm_rne (a := 53) (q := 55) (by decide)]
         refine wq_rv d227_45 (fin _ rfl (fun a => ?_) (fun a => ?_) (fun a => ?_) (fun a => ?_) (rh_Ft (rh_Ft (rh_Fr (by decide)) (rh_Fr (by decide))) (rh_Fr (by decide))))
         · have hne : ¬ K to = [] := fun z => by rw [z] at g1; cases g1
           rw [pm_rne (by decide), pm_rne (by decide), pm_rne (by decide), if_neg (fun z => hne z.2)]
         · rw [pm_rne (by decide), pm_r22, upd_if, g1]
           by_cases q : a = e
           · rw [if_pos q, if_pos (by rw [q])]; rfl
           · rw [if_neg q, if_neg (fun z => q (Option.some.inj z))]
         · rw [pm_r22, upd_if]; rfl
         · rw [pm_rne (by decide), pm_rne (by decide), pm_r22, upd_if]; rfl)
  · -- pc 16
    have he := hemp (by simpa using c13)
    refine wq_l 17 d227_16 rfl rfl rfl rfl ?_
    refine wq_gr (ci := 10) (j := 19) (q := 52) 20 d227_17 rfl rfl rfl rfl ?_
    refine wq_l 21 d227_20 rfl rfl rfl rfl ?_
    refine wq_l 22 d227_21 rfl rfl rfl rfl ?_
    refine wq_as 23 d227_22 rfl rfl rfl (vp_in_iff.mpr (by simp only [i_lt, i_le, i_eq, ne_eq, Int32.reduceToInt, b2_0, b2_1, decide_eq_true_eq, decide_eq_false_iff_not, Bool.not_eq_true, Bool.not_eq_false, et] at * <;> omega)) ?_
    rw [tk, pm_rne (a := 52) (q := 55) (by decide)]
    refine wq_g 38 d227_23 (by decide) ?_
    first | rw [nI_clamp (n := e) (by omega), pm_rne (a := 54) (q := 55) (by decide)] | skip
    refine wq_l 39 d227_38 rfl rfl rfl rfl ?_
    refine wq_gr (ci := 10) (j := 20) (q := 53) 42 d227_39 rfl rfl rfl rfl ?_
    refine wq_l 43 d227_42 rfl rfl rfl rfl ?_
    refine wq_l 44 d227_43 rfl rfl rfl rfl ?_
    refine wq_as 45 d227_44 rfl rfl rfl (vp_in_iff.mpr (by simp only [i_lt, i_le, i_eq, ne_eq, Int32.reduceToInt, b2_0, b2_1, decide_eq_true_eq, decide_eq_false_iff_not, Bool.not_eq_true, Bool.not_eq_false, et] at * <;> omega)) ?_
    first
      | (rw [tk, pm_rne (a := 53) (q := 52) (by decide), pm_rne (a := 53) (q := 55) (by decide)]
         refine wq_rv d227_45 (fin _ rfl (fun a => ?_) (fun a => ?_) (fun a => ?_) (fun a => ?_) (rh_Ft (rh_Ft (rh_Fr (by decide)) (rh_Fr (by decide))) (rh_Fr (by decide))))
         · rw [pm_rne (by decide), pm_r22, upd_if]
           by_cases q : a = to
           · rw [if_pos q, if_pos ⟨q, he⟩]; rfl
           · rw [if_neg q, if_neg (fun z => q z.1)]
         · rw [pm_rne (by decide), pm_rne (by decide), pm_rne (by decide), if_neg (by rw [he]; exact fun z => by cases z)]
         · rw [pm_r22, upd_if]; rfl
         · rw [pm_rne (by decide), pm_rne (by decide), pm_r22, upd_if]; rfl)
      | (rw [tk, pm_rne (a := 53) (q := 54) (by decide), pm_rne (a := 53) (q := 55) (by decide)]
         refine wq_rv d227_45 (fin _ rfl (fun a => ?_) (fun a => ?_) (fun a => ?_) (fun a => ?_) (rh_Ft (rh_Ft (rh_Fr (by decide)) (rh_Fr (by decide))) (rh_Fr (by decide))))
         · have hne : ¬ K to = [] := fun z => by rw [z] at g1; cases g1
           rw [pm_rne (by decide), pm_rne (by decide), pm_rne (by decide), if_neg (fun z => hne z.2)]
         · rw [pm_rne (by decide), pm_r22, upd_if, g1]
           by_cases q : a = e
           · rw [if_pos q, if_pos (by rw [q])]; rfl
           · rw [if_neg q, if_neg (fun z => q (Option.some.inj z))]
         · rw [pm_r22, upd_if]; rfl
         · rw [pm_rne (by decide), pm_rne (by decide), pm_r22, upd_if]; rfl)
