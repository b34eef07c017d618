/-! BLOCKS -/
def pg_b142 (T : pg_T) (w : Nat) : pg_P := pg_tok (pg_exp T (w + 1))
def pg_b119 (T : pg_T) (w : Nat) : pg_P := pg_seq (pg_ite (pg_is T 37) (pg_ladd T) (pg_body T (pg_B T 100))) (pg_b142 T w)
theorem pg_block_e (T : pg_T) (c : pg_C) : pg_block T c = pg_node (pg_k T c / 2 + 1) (pg_pl T) (fun c => pg_v T (pg_stp c)) (pg_seq (pg_tok (fun c => pg_exp T 41 (pg_stp c))) (pg_seq (if pg_is T 0 c then pg_seq (pg_tok (pg_exp T 58)) (pg_simple T) else pg_nil) (pg_seq (pg_whl (pg_any T [6, 7, 8]) (pg_sect T) pg_M) (pg_b119 T (pg_k T c))))) c := rfl
theorem pl79 {d : Nat} {T : pg_T} {n : Nat} {σ0 : pm_S} {l : List pg_N} {Q : Option Value → pm_S → Prop} {wd x : Int32} (hK : pc_K T n σ0) : ∀ (k : Nat) (σ : pm_S) (c : pg_C) (s : List pg_N), k ≤ 8192 → pc_R T n σ0 σ c l s → (∀ σ' (y w : Int32), pc_R T n σ0 σ' (pg_whl (pg_any T [6, 7, 8]) (pg_sect T) k c).1 l (s ++ (pg_whl (pg_any T [6, 7, 8]) (pg_sect T) k c).2) → pm_WP pm_Y0 (pm_call pm_Y0 (d + 9)) 4 prog_6_method_3_code (some FieldType.boolean) Q 119 [.ref 4, .int wd, .int x, .int w, .int y] [] σ') → pm_WP pm_Y0 (pm_call pm_Y0 (d + 9)) 4 prog_6_method_3_code (some FieldType.boolean) Q 99 [.ref 4, .int wd, .int x, .int 1, .int (nI k)] [] σ := by
  intro k
  induction k with
  | zero =>
    intro σ c s hk hR hX
    refine wq_l 100 d79_99 rfl rfl rfl rfl ?_
    refine wq_b 119 103 d79_100 rfl (by decide) rfl (fun c100 => absurd c100 (by decide)) (fun c100 => ?_)
    refine wq_l 105 d79_103 rfl rfl rfl rfl ?_
    refine wq_b 119 108 d79_105 rfl (by decide) rfl (fun c105 => ?_) (fun c105 => absurd (by decide) c105)
    exact hX _ _ _ (pc_e hR rfl (by simp only [pg_whl, pg_nil, List.append_nil]; done))
  | succ k ih =>
    intro σ c s hk hR hX
    have ek := nI_toInt (n := k + 1) (by omega)
    refine wq_l 100 d79_99 rfl rfl rfl rfl ?_
    refine wq_b 119 103 d79_100 rfl (by decide) rfl (fun c100 => absurd c100 (by decide)) (fun c100 => ?_)
    refine wq_l 105 d79_103 rfl rfl rfl rfl ?_
    refine wq_b 119 108 d79_105 rfl (by decide) rfl (fun c105 => absurd c105 ((by simp only [i_lt, i_le, i_eq, ne_eq, Int32.reduceToInt, b2_0, b2_1, decide_eq_true_eq, decide_eq_false_iff_not, Bool.not_eq_true, Bool.not_eq_false] at * <;> omega))) (fun c105 => ?_)
    refine wq_l 109 d79_108 rfl rfl rfl rfl ?_
    refine wq_v 112 [] d79_109 rfl rfl m82 rfl rfl (Nat.le_of_ble_eq_true rfl) rfl (pp82 hK hR (fun σ109 hS => ?_))
    refine wq_s 113 d79_112 rfl rfl (Nat.le_of_ble_eq_true rfl) rfl rfl ?_
    refine wq_i 116 d79_113 rfl rfl rfl ?_
    refine wq_g 99 d79_116 (by decide) ?_
    rw [show nI (k + 1) + Int32.ofInt (-1) = nI k from nI_m1 k]
    cases fa : ((pg_any T [6, 7, 8]) c) with
    | true =>
      rw [show b2 true = 1 from rfl]
      exact ih _ _ _ (by omega) (pc_e hS (by simp only [pg_ite, if_true, fa]; done) (by simp only [pg_ite, if_true, fa]; done) : pc_R T n σ0 _ ((pg_sect T) c).1 l (s ++ ((pg_sect T) c).2)) (fun σ' y w h' => hX σ' y w (pc_e h' (by simp only [pg_whl, pg_ite, pg_seq, pg_nil, if_true, if_false, Bool.false_eq_true, fa]; done) (by simp only [pg_whl, pg_ite, pg_seq, pg_nil, if_true, if_false, Bool.false_eq_true, fa, List.append_assoc, List.nil_append, List.append_nil, List.cons_append, List.singleton_append, List.length_append, List.length_cons, List.length_nil, List.length_singleton]; done)))
    | false =>
      rw [show b2 false = 0 from rfl]
      refine wq_l 100 d79_99 rfl rfl rfl rfl ?_
      refine wq_b 119 103 d79_100 rfl (by decide) rfl (fun _ => ?_) (fun z => absurd rfl z)
      exact hX _ _ _ (pc_e hS (by simp only [pg_whl, pg_ite, pg_seq, pg_nil, if_true, if_false, Bool.false_eq_true, fa]; done) (by simp only [pg_whl, pg_ite, pg_seq, pg_nil, if_true, if_false, Bool.false_eq_true, fa, List.append_assoc, List.nil_append, List.append_nil, List.cons_append, List.singleton_append, List.length_append, List.length_cons, List.length_nil, List.length_singleton]; done))
theorem pq79_142 {d : Nat} {T : pg_T} {n : Nat} {σ0 σ : pm_S} {c : pg_C} {L r : List pg_N} {k0 p0 z0 : Nat} {v0 x : Int32} {Q : Option Value → pm_S → Prop} {w : Nat} {y u : Int32} (hK : pc_K T n σ0) (hw : w + 1 ≤ 68 ∧ w + 1 ≠ 44 ∧ w + 1 ≠ 45 ∧ w + 1 ≠ 46) (hx : L.length < 16386 → x = nI L.length) (hR : pc_R T n σ0 σ c (L ++ [(k0, p0, v0, z0)]) r) (hQ : ∀ σ', pc_R T n σ0 σ' (pg_b142 T w c).1 L ((k0, p0, v0, (r ++ (pg_b142 T w c).2).length + 1) :: (r ++ (pg_b142 T w c).2)) → Q (some (.int 1)) σ') : pm_WP pm_Y0 (pm_call pm_Y0 (d + 9)) 4 prog_6_method_3_code (some FieldType.boolean) Q 142 [.ref 4, .int (nI w), .int x, .int y, .int u] [] σ := by
  refine wq_l 143 d79_142 rfl rfl rfl rfl ?_
  refine wq_gr (ci := 4) (j := 0) (q := 2) 146 d79_143 rfl rfl rfl rfl ?_
  refine wq_l 147 d79_146 rfl rfl rfl rfl ?_
  refine wq_k 148 1 d79_147 (by decide) rfl ?_
  refine wq_a 149 d79_148 rfl rfl ?_
  rw [show nI w + 1 = nI (w + 1) from (nI_succ _).symm]
  refine wq_v 152 [_] d79_149 rfl rfl m49 rfl rfl (Nat.le_of_ble_eq_true rfl) rfl (pk49 (k := w + 1) hK hw hR (fun σ149 h149 => ?_))
  refine wq_l 153 d79_152 rfl rfl rfl rfl ?_
  refine wq_gr (ci := 4) (j := 1) (q := 3) 156 d79_153 rfl rfl rfl rfl ?_
  refine wq_l 157 d79_156 rfl rfl rfl rfl ?_
  refine wq_v 160 [_] d79_157 rfl rfl m59 rfl rfl (Nat.le_of_ble_eq_true rfl) rfl (pk59 hx h149 (fun σ157 h157 => ?_))
  refine wq_k 161 1 d79_160 (by decide) rfl ?_
  refine wq_ri d79_161 (rfl) ?_
  exact hQ _ (pc_e h157 (by simp only [pg_b142, pg_tok, if_true, if_false, Bool.false_eq_true]; done) (by simp only [pg_b142, pg_tok, List.append_assoc, List.nil_append, List.append_nil, List.cons_append, List.singleton_append, List.length_append, List.length_cons, List.length_nil, List.length_singleton, if_true, if_false, Bool.false_eq_true]; done))
theorem pq79_119 {d : Nat} {T : pg_T} {n : Nat} {σ0 σ : pm_S} {c : pg_C} {L r : List pg_N} {k0 p0 z0 : Nat} {v0 x : Int32} {Q : Option Value → pm_S → Prop} {w : Nat} {y u : Int32} (hK : pc_K T n σ0) (hd : 930 ≤ d + 9) (hw : w + 1 ≤ 68 ∧ w + 1 ≠ 44 ∧ w + 1 ≠ 45 ∧ w + 1 ≠ 46) (hx : L.length < 16386 → x = nI L.length) (hR : pc_R T n σ0 σ c (L ++ [(k0, p0, v0, z0)]) r) (hQ : ∀ σ', pc_R T n σ0 σ' (pg_b119 T w c).1 L ((k0, p0, v0, (r ++ (pg_b119 T w c).2).length + 1) :: (r ++ (pg_b119 T w c).2)) → Q (some (.int 1)) σ') : pm_WP pm_Y0 (pm_call pm_Y0 (d + 9)) 4 prog_6_method_3_code (some FieldType.boolean) Q 119 [.ref 4, .int (nI w), .int x, .int y, .int u] [] σ := by
  refine wq_l 120 d79_119 rfl rfl rfl rfl ?_
  refine wq_gr (ci := 4) (j := 0) (q := 2) 123 d79_120 rfl rfl rfl rfl ?_
  refine wq_k 125 37 d79_123 (by decide) rfl ?_
  refine wq_v 128 [_] d79_125 rfl rfl m51 rfl rfl (Nat.le_of_ble_eq_true rfl) rfl (pk51 (k := 37) hK (by decide) hR ?_)
  refine wq_b 138 131 d79_128 rfl (by decide) rfl (fun c128 => ?_) (fun c128 => ?_)
  · -- pc 138
    have f128 := b2z c128
    refine wq_l 139 d79_138 rfl rfl rfl rfl ?_
    refine wq_v 142 [] d79_139 rfl rfl m94 rfl rfl (Nat.le_of_ble_eq_true rfl) rfl (pb_all hK 100 _ _ (by omega) (fun _ => by omega) _ _ _ _ hR (fun σ139 h139 => ?_))
    exact pq79_142 hK hw hx h139 (fun σ' h' => hQ σ' (pc_e h' (by simp only [pg_b119, pg_seq, pg_ite, if_true, if_false, Bool.false_eq_true, f128]; done) (by simp only [pg_b119, pg_seq, pg_ite, List.append_assoc, List.nil_append, List.append_nil, List.cons_append, List.singleton_append, List.length_append, List.length_cons, List.length_nil, List.length_singleton, if_true, if_false, Bool.false_eq_true, f128]; done)))
  · -- pc 131
    have f128 := b2n c128
    refine wq_l 132 d79_131 rfl rfl rfl rfl ?_
    refine wq_v 135 [] d79_132 rfl rfl m87 rfl rfl (Nat.le_of_ble_eq_true rfl) rfl (pp87 hK (pg_isl f128 (by decide)) hR (fun σ132 h132 => ?_))
    refine wq_g 142 d79_135 (by decide) ?_
    exact pq79_142 hK hw hx h132 (fun σ' h' => hQ σ' (pc_e h' (by simp only [pg_b119, pg_seq, pg_ite, if_true, if_false, Bool.false_eq_true, f128]; done) (by simp only [pg_b119, pg_seq, pg_ite, List.append_assoc, List.nil_append, List.append_nil, List.cons_append, List.singleton_append, List.length_append, List.length_cons, List.length_nil, List.length_singleton, if_true, if_false, Bool.false_eq_true, f128]; done)))
theorem pp79 {d : Nat} {T : pg_T} {n : Nat} {σ0 σ : pm_S} {c : pg_C} {l s : List pg_N} {Q : Option Value → pm_S → Prop} (hK : pc_K T n σ0) (hd : 930 ≤ d + 9) (hR : pc_R T n σ0 σ c l s) (hQ : ∀ σ', pc_R T n σ0 σ' (pg_ite (pg_any T [0, 2, 4]) (pg_block T) pg_nil c).1 l (s ++ (pg_ite (pg_any T [0, 2, 4]) (pg_block T) pg_nil c).2) → Q (some (.int (b2 (pg_any T [0, 2, 4] c)))) σ') : pm_call pm_Y0 (d + 10) 79 [.ref 4] σ Q := by
  have kq : ∀ k, k < 100 → (nI (pg_k T c) = nI k ↔ pg_k T c = k) := fun k hk => pc_kq hK hk
  refine wq_m m79 (Nat.le_of_ble_eq_true rfl) (by decide) rfl ?_
  refine wq_l 1 d79_0 rfl rfl rfl rfl ?_
  refine wq_gr (ci := 4) (j := 0) (q := 2) 4 d79_1 rfl rfl rfl rfl ?_
  refine wq_v 7 [] d79_4 rfl rfl m45 rfl rfl (Nat.le_of_ble_eq_true rfl) rfl (pk45 hR ?_)
  refine wq_s 8 d79_7 rfl rfl (Nat.le_of_ble_eq_true rfl) rfl rfl ?_
  refine wq_l 9 d79_8 rfl rfl rfl rfl ?_
  refine wq_b 24 12 d79_9 rfl (by decide) rfl (fun c9 => ?_) (fun c9 => ?_)
  · -- pc 24
    skip
    have hk : pg_k T c = 0 ∨ pg_k T c = 2 ∨ pg_k T c = 4 := by first | exact Or.inl ((kq 0 (by decide)).mp c9) | exact Or.inr (Or.inl ((kq 2 (by decide)).mp c14)) | exact Or.inr (Or.inr ((kq 4 (by decide)).mp c19))
    have hl : pg_live T c ∧ T.1 c.1 ≠ 44 := by rcases hk with z | z | z <;> exact pg_kl z (by decide)
    have ha : pg_any T [0, 2, 4] c = true := by rcases hk with z | z | z <;> exact pg_any3 z (by decide)
    rw [ha] at hQ
    refine wq_l 25 d79_24 rfl rfl rfl rfl ?_
    refine wq_gr (ci := 4) (j := 1) (q := 3) 28 d79_25 rfl rfl rfl rfl ?_
    refine wq_l 29 d79_28 rfl rfl rfl rfl ?_
    refine wq_vs 32 [_] d79_29 rfl rfl m80 rfl (Nat.le_of_ble_eq_true rfl) rfl (pp80 (k := pg_k T c) hk ?_)
    refine wq_l 33 d79_32 rfl rfl rfl rfl ?_
    refine wq_gr (ci := 4) (j := 0) (q := 2) 36 d79_33 rfl rfl rfl rfl ?_
    refine wq_v 39 [] d79_36 rfl rfl m46 rfl rfl (Nat.le_of_ble_eq_true rfl) rfl (pk46 hK hR ?_)
    refine wq_k 40 0 d79_39 (by decide) rfl ?_
    refine wq_v 43 [_, _, _] d79_40 rfl rfl m57 rfl rfl (Nat.le_of_ble_eq_true rfl) rfl (pk57o (k := pg_k T c / 2 + 1) hR (fun σ40 x40 hx40 h40 => ?_))
    refine wq_s 44 d79_43 rfl rfl (Nat.le_of_ble_eq_true rfl) rfl rfl ?_
    refine wq_l 45 d79_44 rfl rfl rfl rfl ?_
    refine wq_gr (ci := 4) (j := 0) (q := 2) 48 d79_45 rfl rfl rfl rfl ?_
    refine wq_v 51 [] d79_48 rfl rfl m47 rfl rfl (Nat.le_of_ble_eq_true rfl) rfl (pk47 hK h40 (hl).1 (hl).2 (fun σ48 h48 => ?_))
    refine wq_l 52 d79_51 rfl rfl rfl rfl ?_
    refine wq_gr (ci := 4) (j := 1) (q := 3) 55 d79_52 rfl rfl rfl rfl ?_
    refine wq_l 56 d79_55 rfl rfl rfl rfl ?_
    refine wq_l 57 d79_56 rfl rfl rfl rfl ?_
    refine wq_gr (ci := 4) (j := 0) (q := 2) 60 d79_57 rfl rfl rfl rfl ?_
    refine wq_v 63 [] d79_60 rfl rfl m48 rfl rfl (Nat.le_of_ble_eq_true rfl) rfl (pk48 hK h48 ?_)
    refine wq_v 66 [_, _] d79_63 rfl rfl m58 rfl rfl (Nat.le_of_ble_eq_true rfl) rfl (pk58 hx40 h48 (fun σ63 h63 => ?_))
    refine wq_l 67 d79_66 rfl rfl rfl rfl ?_
    refine wq_gr (ci := 4) (j := 0) (q := 2) 70 d79_67 rfl rfl rfl rfl ?_
    refine wq_k 72 41 d79_70 (by decide) rfl ?_
    refine wq_v 75 [_] d79_72 rfl rfl m49 rfl rfl (Nat.le_of_ble_eq_true rfl) rfl (pk49 (k := 41) hK (by decide) h63 (fun σ72 h72 => ?_))
    refine wq_l 76 d79_75 rfl rfl rfl rfl ?_
    refine wq_b 92 79 d79_76 rfl (by decide) rfl (fun c76 => ?_) (fun c76 => ?_)
    · -- pc 92
      have f76 : pg_is T 0 c = false := by cases e : pg_is T 0 c; rfl; exact absurd ((kq 0 (by decide)).mpr (pg_isk e)) c76
      refine wq_k 93 1 d79_92 (by decide) rfl ?_
      refine wq_s 94 d79_93 rfl rfl (Nat.le_of_ble_eq_true rfl) rfl rfl ?_
      refine wq_k 97 8192 d79_94 (by decide) rfl ?_
      refine wq_s 99 d79_97 rfl rfl (Nat.le_of_ble_eq_true rfl) rfl rfl ?_
      refine pl79 (x := x40) hK pg_M _ _ _ (Nat.le_refl _) h72 (fun σl yl wl hl2 => ?_)
      generalize hWw : pg_whl (pg_any T [6, 7, 8]) (pg_sect T) pg_M = W at *
      exact pq79_119 (w := pg_k T c) hK hd (by omega) hx40 hl2 (fun σ' h' => hQ σ' (pc_e h' (by simp only [pg_ite, pg_block_e, pg_node, pg_seq, pg_tok, pg_nil, if_true, if_false, Bool.false_eq_true, ha, f76, hWw]; done) (by simp only [pg_ite, pg_block_e, pg_node, pg_seq, pg_tok, pg_nil, if_true, if_false, Bool.false_eq_true, ha, f76, hWw, List.append_assoc, List.nil_append, List.append_nil, List.cons_append, List.singleton_append, List.length_append, List.length_cons, List.length_nil, List.length_singleton]; done)))
    · -- pc 79
      have f76 : pg_is T 0 c = true := pg_isy ((kq 0 (by decide)).mp (Classical.not_not.mp c76))
      refine wq_l 80 d79_79 rfl rfl rfl rfl ?_
      refine wq_gr (ci := 4) (j := 0) (q := 2) 83 d79_80 rfl rfl rfl rfl ?_
      refine wq_k 85 58 d79_83 (by decide) rfl ?_
      refine wq_v 88 [_] d79_85 rfl rfl m49 rfl rfl (Nat.le_of_ble_eq_true rfl) rfl (pk49 (k := 58) hK (by decide) h72 (fun σ85 h85 => ?_))
      refine wq_l 89 d79_88 rfl rfl rfl rfl ?_
      refine wq_v 92 [] d79_89 rfl rfl m81 rfl rfl (Nat.le_of_ble_eq_true rfl) rfl (pp81 hK h85 (fun σ89 h89 => ?_))
      refine wq_k 93 1 d79_92 (by decide) rfl ?_
      refine wq_s 94 d79_93 rfl rfl (Nat.le_of_ble_eq_true rfl) rfl rfl ?_
      refine wq_k 97 8192 d79_94 (by decide) rfl ?_
      refine wq_s 99 d79_97 rfl rfl (Nat.le_of_ble_eq_true rfl) rfl rfl ?_
      refine pl79 (x := x40) hK pg_M _ _ _ (Nat.le_refl _) h89 (fun σl yl wl hl2 => ?_)
      generalize hWw : pg_whl (pg_any T [6, 7, 8]) (pg_sect T) pg_M = W at *
      exact pq79_119 (w := pg_k T c) hK hd (by omega) hx40 hl2 (fun σ' h' => hQ σ' (pc_e h' (by simp only [pg_ite, pg_block_e, pg_node, pg_seq, pg_tok, pg_nil, if_true, if_false, Bool.false_eq_true, ha, f76, hWw]; done) (by simp only [pg_ite, pg_block_e, pg_node, pg_seq, pg_tok, pg_nil, if_true, if_false, Bool.false_eq_true, ha, f76, hWw, List.append_assoc, List.nil_append, List.append_nil, List.cons_append, List.singleton_append, List.length_append, List.length_cons, List.length_nil, List.length_singleton]; done)))
  · -- pc 12
    skip
    refine wq_l 13 d79_12 rfl rfl rfl rfl ?_
    refine wq_k 14 2 d79_13 (by decide) rfl ?_
    refine wq_b 24 17 d79_14 rfl (by decide) rfl (fun c14 => ?_) (fun c14 => ?_)
    · -- pc 24
      have hk : pg_k T c = 0 ∨ pg_k T c = 2 ∨ pg_k T c = 4 := by first | exact Or.inl ((kq 0 (by decide)).mp c9) | exact Or.inr (Or.inl ((kq 2 (by decide)).mp c14)) | exact Or.inr (Or.inr ((kq 4 (by decide)).mp c19))
      have hl : pg_live T c ∧ T.1 c.1 ≠ 44 := by rcases hk with z | z | z <;> exact pg_kl z (by decide)
      have ha : pg_any T [0, 2, 4] c = true := by rcases hk with z | z | z <;> exact pg_any3 z (by decide)
      rw [ha] at hQ
      refine wq_l 25 d79_24 rfl rfl rfl rfl ?_
      refine wq_gr (ci := 4) (j := 1) (q := 3) 28 d79_25 rfl rfl rfl rfl ?_
      refine wq_l 29 d79_28 rfl rfl rfl rfl ?_
      refine wq_vs 32 [_] d79_29 rfl rfl m80 rfl (Nat.le_of_ble_eq_true rfl) rfl (pp80 (k := pg_k T c) hk ?_)
      refine wq_l 33 d79_32 rfl rfl rfl rfl ?_
      refine wq_gr (ci := 4) (j := 0) (q := 2) 36 d79_33 rfl rfl rfl rfl ?_
      refine wq_v 39 [] d79_36 rfl rfl m46 rfl rfl (Nat.le_of_ble_eq_true rfl) rfl (pk46 hK hR ?_)
      refine wq_k 40 0 d79_39 (by decide) rfl ?_
      refine wq_v 43 [_, _, _] d79_40 rfl rfl m57 rfl rfl (Nat.le_of_ble_eq_true rfl) rfl (pk57o (k := pg_k T c / 2 + 1) hR (fun σ40 x40 hx40 h40 => ?_))
      refine wq_s 44 d79_43 rfl rfl (Nat.le_of_ble_eq_true rfl) rfl rfl ?_
      refine wq_l 45 d79_44 rfl rfl rfl rfl ?_
      refine wq_gr (ci := 4) (j := 0) (q := 2) 48 d79_45 rfl rfl rfl rfl ?_
      refine wq_v 51 [] d79_48 rfl rfl m47 rfl rfl (Nat.le_of_ble_eq_true rfl) rfl (pk47 hK h40 (hl).1 (hl).2 (fun σ48 h48 => ?_))
      refine wq_l 52 d79_51 rfl rfl rfl rfl ?_
      refine wq_gr (ci := 4) (j := 1) (q := 3) 55 d79_52 rfl rfl rfl rfl ?_
      refine wq_l 56 d79_55 rfl rfl rfl rfl ?_
      refine wq_l 57 d79_56 rfl rfl rfl rfl ?_
      refine wq_gr (ci := 4) (j := 0) (q := 2) 60 d79_57 rfl rfl rfl rfl ?_
      refine wq_v 63 [] d79_60 rfl rfl m48 rfl rfl (Nat.le_of_ble_eq_true rfl) rfl (pk48 hK h48 ?_)
      refine wq_v 66 [_, _] d79_63 rfl rfl m58 rfl rfl (Nat.le_of_ble_eq_true rfl) rfl (pk58 hx40 h48 (fun σ63 h63 => ?_))
      refine wq_l 67 d79_66 rfl rfl rfl rfl ?_
      refine wq_gr (ci := 4) (j := 0) (q := 2) 70 d79_67 rfl rfl rfl rfl ?_
      refine wq_k 72 41 d79_70 (by decide) rfl ?_
      refine wq_v 75 [_] d79_72 rfl rfl m49 rfl rfl (Nat.le_of_ble_eq_true rfl) rfl (pk49 (k := 41) hK (by decide) h63 (fun σ72 h72 => ?_))
      refine wq_l 76 d79_75 rfl rfl rfl rfl ?_
      refine wq_b 92 79 d79_76 rfl (by decide) rfl (fun c76 => ?_) (fun c76 => ?_)
      · -- pc 92
        have f76 : pg_is T 0 c = false := by cases e : pg_is T 0 c; rfl; exact absurd ((kq 0 (by decide)).mpr (pg_isk e)) c76
        refine wq_k 93 1 d79_92 (by decide) rfl ?_
        refine wq_s 94 d79_93 rfl rfl (Nat.le_of_ble_eq_true rfl) rfl rfl ?_
        refine wq_k 97 8192 d79_94 (by decide) rfl ?_
        refine wq_s 99 d79_97 rfl rfl (Nat.le_of_ble_eq_true rfl) rfl rfl ?_
        refine pl79 (x := x40) hK pg_M _ _ _ (Nat.le_refl _) h72 (fun σl yl wl hl2 => ?_)
        generalize hWw : pg_whl (pg_any T [6, 7, 8]) (pg_sect T) pg_M = W at *
        exact pq79_119 (w := pg_k T c) hK hd (by omega) hx40 hl2 (fun σ' h' => hQ σ' (pc_e h' (by simp only [pg_ite, pg_block_e, pg_node, pg_seq, pg_tok, pg_nil, if_true, if_false, Bool.false_eq_true, ha, f76, hWw]; done) (by simp only [pg_ite, pg_block_e, pg_node, pg_seq, pg_tok, pg_nil, if_true, if_false, Bool.false_eq_true, ha, f76, hWw, List.append_assoc, List.nil_append, List.append_nil, List.cons_append, List.singleton_append, List.length_append, List.length_cons, List.length_nil, List.length_singleton]; done)))
      · -- pc 79
        have f76 : pg_is T 0 c = true := pg_isy ((kq 0 (by decide)).mp (Classical.not_not.mp c76))
        refine wq_l 80 d79_79 rfl rfl rfl rfl ?_
        refine wq_gr (ci := 4) (j := 0) (q := 2) 83 d79_80 rfl rfl rfl rfl ?_
        refine wq_k 85 58 d79_83 (by decide) rfl ?_
        refine wq_v 88 [_] d79_85 rfl rfl m49 rfl rfl (Nat.le_of_ble_eq_true rfl) rfl (pk49 (k := 58) hK (by decide) h72 (fun σ85 h85 => ?_))
        refine wq_l 89 d79_88 rfl rfl rfl rfl ?_
        refine wq_v 92 [] d79_89 rfl rfl m81 rfl rfl (Nat.le_of_ble_eq_true rfl) rfl (pp81 hK h85 (fun σ89 h89 => ?_))
        refine wq_k 93 1 d79_92 (by decide) rfl ?_
        refine wq_s 94 d79_93 rfl rfl (Nat.le_of_ble_eq_true rfl) rfl rfl ?_
        refine wq_k 97 8192 d79_94 (by decide) rfl ?_
        refine wq_s 99 d79_97 rfl rfl (Nat.le_of_ble_eq_true rfl) rfl rfl ?_
        refine pl79 (x := x40) hK pg_M _ _ _ (Nat.le_refl _) h89 (fun σl yl wl hl2 => ?_)
        generalize hWw : pg_whl (pg_any T [6, 7, 8]) (pg_sect T) pg_M = W at *
        exact pq79_119 (w := pg_k T c) hK hd (by omega) hx40 hl2 (fun σ' h' => hQ σ' (pc_e h' (by simp only [pg_ite, pg_block_e, pg_node, pg_seq, pg_tok, pg_nil, if_true, if_false, Bool.false_eq_true, ha, f76, hWw]; done) (by simp only [pg_ite, pg_block_e, pg_node, pg_seq, pg_tok, pg_nil, if_true, if_false, Bool.false_eq_true, ha, f76, hWw, List.append_assoc, List.nil_append, List.append_nil, List.cons_append, List.singleton_append, List.length_append, List.length_cons, List.length_nil, List.length_singleton]; done)))
    · -- pc 17
      refine wq_l 18 d79_17 rfl rfl rfl rfl ?_
      refine wq_k 19 4 d79_18 (by decide) rfl ?_
      refine wq_b 24 22 d79_19 rfl (by decide) rfl (fun c19 => ?_) (fun c19 => ?_)
      · -- pc 24
        have hk : pg_k T c = 0 ∨ pg_k T c = 2 ∨ pg_k T c = 4 := by first | exact Or.inl ((kq 0 (by decide)).mp c9) | exact Or.inr (Or.inl ((kq 2 (by decide)).mp c14)) | exact Or.inr (Or.inr ((kq 4 (by decide)).mp c19))
        have hl : pg_live T c ∧ T.1 c.1 ≠ 44 := by rcases hk with z | z | z <;> exact pg_kl z (by decide)
        have ha : pg_any T [0, 2, 4] c = true := by rcases hk with z | z | z <;> exact pg_any3 z (by decide)
        rw [ha] at hQ
        refine wq_l 25 d79_24 rfl rfl rfl rfl ?_
        refine wq_gr (ci := 4) (j := 1) (q := 3) 28 d79_25 rfl rfl rfl rfl ?_
        refine wq_l 29 d79_28 rfl rfl rfl rfl ?_
        refine wq_vs 32 [_] d79_29 rfl rfl m80 rfl (Nat.le_of_ble_eq_true rfl) rfl (pp80 (k := pg_k T c) hk ?_)
        refine wq_l 33 d79_32 rfl rfl rfl rfl ?_
        refine wq_gr (ci := 4) (j := 0) (q := 2) 36 d79_33 rfl rfl rfl rfl ?_
        refine wq_v 39 [] d79_36 rfl rfl m46 rfl rfl (Nat.le_of_ble_eq_true rfl) rfl (pk46 hK hR ?_)
        refine wq_k 40 0 d79_39 (by decide) rfl ?_
        refine wq_v 43 [_, _, _] d79_40 rfl rfl m57 rfl rfl (Nat.le_of_ble_eq_true rfl) rfl (pk57o (k := pg_k T c / 2 + 1) hR (fun σ40 x40 hx40 h40 => ?_))
        refine wq_s 44 d79_43 rfl rfl (Nat.le_of_ble_eq_true rfl) rfl rfl ?_
        refine wq_l 45 d79_44 rfl rfl rfl rfl ?_
        refine wq_gr (ci := 4) (j := 0) (q := 2) 48 d79_45 rfl rfl rfl rfl ?_
        refine wq_v 51 [] d79_48 rfl rfl m47 rfl rfl (Nat.le_of_ble_eq_true rfl) rfl (pk47 hK h40 (hl).1 (hl).2 (fun σ48 h48 => ?_))
        refine wq_l 52 d79_51 rfl rfl rfl rfl ?_
        refine wq_gr (ci := 4) (j := 1) (q := 3) 55 d79_52 rfl rfl rfl rfl ?_
        refine wq_l 56 d79_55 rfl rfl rfl rfl ?_
        refine wq_l 57 d79_56 rfl rfl rfl rfl ?_
        refine wq_gr (ci := 4) (j := 0) (q := 2) 60 d79_57 rfl rfl rfl rfl ?_
        refine wq_v 63 [] d79_60 rfl rfl m48 rfl rfl (Nat.le_of_ble_eq_true rfl) rfl (pk48 hK h48 ?_)
        refine wq_v 66 [_, _] d79_63 rfl rfl m58 rfl rfl (Nat.le_of_ble_eq_true rfl) rfl (pk58 hx40 h48 (fun σ63 h63 => ?_))
        refine wq_l 67 d79_66 rfl rfl rfl rfl ?_
        refine wq_gr (ci := 4) (j := 0) (q := 2) 70 d79_67 rfl rfl rfl rfl ?_
        refine wq_k 72 41 d79_70 (by decide) rfl ?_
        refine wq_v 75 [_] d79_72 rfl rfl m49 rfl rfl (Nat.le_of_ble_eq_true rfl) rfl (pk49 (k := 41) hK (by decide) h63 (fun σ72 h72 => ?_))
        refine wq_l 76 d79_75 rfl rfl rfl rfl ?_
        refine wq_b 92 79 d79_76 rfl (by decide) rfl (fun c76 => ?_) (fun c76 => ?_)
        · -- pc 92
          have f76 : pg_is T 0 c = false := by cases e : pg_is T 0 c; rfl; exact absurd ((kq 0 (by decide)).mpr (pg_isk e)) c76
          refine wq_k 93 1 d79_92 (by decide) rfl ?_
          refine wq_s 94 d79_93 rfl rfl (Nat.le_of_ble_eq_true rfl) rfl rfl ?_
          refine wq_k 97 8192 d79_94 (by decide) rfl ?_
          refine wq_s 99 d79_97 rfl rfl (Nat.le_of_ble_eq_true rfl) rfl rfl ?_
          refine pl79 (x := x40) hK pg_M _ _ _ (Nat.le_refl _) h72 (fun σl yl wl hl2 => ?_)
          generalize hWw : pg_whl (pg_any T [6, 7, 8]) (pg_sect T) pg_M = W at *
          exact pq79_119 (w := pg_k T c) hK hd (by omega) hx40 hl2 (fun σ' h' => hQ σ' (pc_e h' (by simp only [pg_ite, pg_block_e, pg_node, pg_seq, pg_tok, pg_nil, if_true, if_false, Bool.false_eq_true, ha, f76, hWw]; done) (by simp only [pg_ite, pg_block_e, pg_node, pg_seq, pg_tok, pg_nil, if_true, if_false, Bool.false_eq_true, ha, f76, hWw, List.append_assoc, List.nil_append, List.append_nil, List.cons_append, List.singleton_append, List.length_append, List.length_cons, List.length_nil, List.length_singleton]; done)))
        · -- pc 79
          have f76 : pg_is T 0 c = true := pg_isy ((kq 0 (by decide)).mp (Classical.not_not.mp c76))
          refine wq_l 80 d79_79 rfl rfl rfl rfl ?_
          refine wq_gr (ci := 4) (j := 0) (q := 2) 83 d79_80 rfl rfl rfl rfl ?_
          refine wq_k 85 58 d79_83 (by decide) rfl ?_
          refine wq_v 88 [_] d79_85 rfl rfl m49 rfl rfl (Nat.le_of_ble_eq_true rfl) rfl (pk49 (k := 58) hK (by decide) h72 (fun σ85 h85 => ?_))
          refine wq_l 89 d79_88 rfl rfl rfl rfl ?_
          refine wq_v 92 [] d79_89 rfl rfl m81 rfl rfl (Nat.le_of_ble_eq_true rfl) rfl (pp81 hK h85 (fun σ89 h89 => ?_))
          refine wq_k 93 1 d79_92 (by decide) rfl ?_
          refine wq_s 94 d79_93 rfl rfl (Nat.le_of_ble_eq_true rfl) rfl rfl ?_
          refine wq_k 97 8192 d79_94 (by decide) rfl ?_
          refine wq_s 99 d79_97 rfl rfl (Nat.le_of_ble_eq_true rfl) rfl rfl ?_
          refine pl79 (x := x40) hK pg_M _ _ _ (Nat.le_refl _) h89 (fun σl yl wl hl2 => ?_)
          generalize hWw : pg_whl (pg_any T [6, 7, 8]) (pg_sect T) pg_M = W at *
          exact pq79_119 (w := pg_k T c) hK hd (by omega) hx40 hl2 (fun σ' h' => hQ σ' (pc_e h' (by simp only [pg_ite, pg_block_e, pg_node, pg_seq, pg_tok, pg_nil, if_true, if_false, Bool.false_eq_true, ha, f76, hWw]; done) (by simp only [pg_ite, pg_block_e, pg_node, pg_seq, pg_tok, pg_nil, if_true, if_false, Bool.false_eq_true, ha, f76, hWw, List.append_assoc, List.nil_append, List.append_nil, List.cons_append, List.singleton_append, List.length_append, List.length_cons, List.length_nil, List.length_singleton]; done)))
      · -- pc 22
        refine wq_k 23 0 d79_22 (by decide) rfl ?_
        refine wq_ri d79_23 (rfl) ?_
        have ha : pg_any T [0, 2, 4] c = false := pg_anyn (by
          intro k hk
          simp only [List.mem_cons, List.not_mem_nil, or_false] at hk
          rcases hk with z | z | z <;> subst z <;> intro w
          · exact c9 ((kq 0 (by decide)).mpr w)
          · exact c14 ((kq 2 (by decide)).mpr w)
          · exact c19 ((kq 4 (by decide)).mpr w))
        rw [ha] at hQ
        exact hQ _ (pc_e hR (by simp only [pg_ite, pg_nil, ha, if_false, Bool.false_eq_true]; done) (by simp only [pg_ite, pg_nil, ha, if_false, Bool.false_eq_true, List.append_nil]; done))
/-! THE WHOLE TEXT -/
theorem pk54 {d : Nat} {T : pg_T} {n : Nat} {σ0 σ : pm_S} {c : pg_C} {l s : List pg_N} {Q : Option Value → pm_S → Prop} (hK : pc_K T n σ0) (hR : pc_R T n σ0 σ c l s) (hQ : Q (some (.int (if T.1 c.1 = 45 then nI (T.2.2 c.1) else 6))) σ) : pm_call pm_Y0 (d + 1) 54 [.ref 2] σ Q := by
  have hB : pc_B T n σ0 σ c (l ++ s) := hR
  obtain ⟨a1, a2⟩ := pc_a hK hB
  obtain ⟨r1, r2, r3, r4, r5, r6, r7, r8⟩ := hR
  have hn := hK.2.1
  have ec := nI_toInt (n := c.1) (by omega)
  have en := nI_toInt (n := n) (by omega)
  have ek := nI_toInt (n := T.1 c.1) (by have := (hK.2.2.2.2.2.2 c.1).1; omega)
  refine wq_m m54 (Nat.le_of_ble_eq_true rfl) (by decide) rfl ?_
  refine wq_l 1 d54_0 rfl rfl rfl rfl ?_
  refine wq_gr (ci := 2) (j := 2) (q := 16) 4 d54_1 rfl rfl rfl rfl ?_
  refine wq_l 5 d54_4 rfl rfl rfl rfl ?_
  refine wq_gi (ci := 2) (j := 9) 8 d54_5 rfl rfl rfl rfl ?_
  rw [r3]
  refine wq_al 9 d54_8 rfl rfl rfl (vp_in_iff.mpr (by simp only [i_lt, i_le, i_eq, ne_eq, Int32.reduceToInt, b2_0, b2_1, decide_eq_true_eq, decide_eq_false_iff_not, Bool.not_eq_true, Bool.not_eq_false] at * <;> omega)) ?_
  rw [nI_clamp (by omega), (a2 c.1 r2).1]
  refine wq_k 11 45 d54_9 (by decide) rfl ?_
  refine wq_b 26 14 d54_11 rfl (by decide) rfl (fun c11 => ?_) (fun c11 => ?_)
  · -- pc 26
    refine wq_k 28 6 d54_26 (by decide) rfl ?_
    refine wq_ri d54_28 (rfl) ?_
    first | (rw [if_pos (by have z := c11; simp only [i_lt, i_le, i_eq, ne_eq, Int32.reduceToInt, b2_0, b2_1, decide_eq_true_eq, decide_eq_false_iff_not, Bool.not_eq_true, Bool.not_eq_false, ek] at z; omega)] at hQ; exact hQ) | (rw [if_neg (by have z := c11; simp only [i_lt, i_le, i_eq, ne_eq, Int32.reduceToInt, b2_0, b2_1, decide_eq_true_eq, decide_eq_false_iff_not, Bool.not_eq_true, Bool.not_eq_false, ek] at z; omega)] at hQ; exact hQ)
  · -- pc 14
    refine wq_l 15 d54_14 rfl rfl rfl rfl ?_
    refine wq_gr (ci := 2) (j := 4) (q := 18) 18 d54_15 rfl rfl rfl rfl ?_
    refine wq_l 19 d54_18 rfl rfl rfl rfl ?_
    refine wq_gi (ci := 2) (j := 9) 22 d54_19 rfl rfl rfl rfl ?_
    rw [r3]
    refine wq_al 23 d54_22 rfl rfl rfl (vp_in_iff.mpr (by simp only [i_lt, i_le, i_eq, ne_eq, Int32.reduceToInt, b2_0, b2_1, decide_eq_true_eq, decide_eq_false_iff_not, Bool.not_eq_true, Bool.not_eq_false] at * <;> omega)) ?_
    rw [nI_clamp (by omega), (a2 c.1 r2).2.2]
    refine wq_g 28 d54_23 (by decide) ?_
    refine wq_ri d54_28 (rfl) ?_
    first | (rw [if_pos (by have z := c11; simp only [i_lt, i_le, i_eq, ne_eq, Int32.reduceToInt, b2_0, b2_1, decide_eq_true_eq, decide_eq_false_iff_not, Bool.not_eq_true, Bool.not_eq_false, ek] at z; omega)] at hQ; exact hQ) | (rw [if_neg (by have z := c11; simp only [i_lt, i_le, i_eq, ne_eq, Int32.reduceToInt, b2_0, b2_1, decide_eq_true_eq, decide_eq_false_iff_not, Bool.not_eq_true, Bool.not_eq_false, ek] at z; omega)] at hQ; exact hQ)
theorem pk56 {d : Nat} {σ : pm_S} {Q : Option Value → pm_S → Prop} (hQ : Q none (pm_pi σ 3 8 0)) : pm_call pm_Y0 (d + 1) 56 [.ref 3] σ Q := by
  refine wq_m m56 (Nat.le_of_ble_eq_true rfl) (by decide) rfl ?_
  refine wq_l 1 d56_0 rfl rfl rfl rfl ?_
  refine wq_k 2 0 d56_1 (by decide) rfl ?_
  refine wq_pf (ci := 3) (j := 8) 5 d56_2 rfl rfl rfl ⟨rfl, rfl⟩ rfl ?_
  refine wq_rv d56_5 ?_
  exact hQ
theorem pl78 {d : Nat} {T : pg_T} {n : Nat} {σ0 : pm_S} {l : List pg_N} {Q : Option Value → pm_S → Prop} {x : Int32} (hK : pc_K T n σ0) (hd : 930 ≤ d + 9) : ∀ (k : Nat) (σ : pm_S) (c : pg_C) (s : List pg_N), k ≤ 8192 → pc_R T n σ0 σ c l s → (∀ σ' (y w : Int32), pc_R T n σ0 σ' (pg_whl (pg_any T [0, 2, 4]) (pg_block T) k c).1 l (s ++ (pg_whl (pg_any T [0, 2, 4]) (pg_block T) k c).2) → pm_WP pm_Y0 (pm_call pm_Y0 (d + 10)) 4 prog_6_method_2_code (some FieldType.int) Q 53 [.ref 4, .int x, .int w, .int y] [] σ') → pm_WP pm_Y0 (pm_call pm_Y0 (d + 10)) 4 prog_6_method_2_code (some FieldType.int) Q 34 [.ref 4, .int x, .int 1, .int (nI k)] [] σ := by
  intro k
  induction k with
  | zero =>
    intro σ c s hk hR hX
    refine wq_l 35 d78_34 rfl rfl rfl rfl ?_
    refine wq_b 53 38 d78_35 rfl (by decide) rfl (fun c35 => absurd c35 (by decide)) (fun c35 => ?_)
    refine wq_l 39 d78_38 rfl rfl rfl rfl ?_
    refine wq_b 53 42 d78_39 rfl (by decide) rfl (fun c39 => ?_) (fun c39 => absurd (by decide) c39)
    exact hX _ _ _ (pc_e hR rfl (by simp only [pg_whl, pg_nil, List.append_nil]; done))
  | succ k ih =>
    intro σ c s hk hR hX
    have ek := nI_toInt (n := k + 1) (by omega)
    refine wq_l 35 d78_34 rfl rfl rfl rfl ?_
    refine wq_b 53 38 d78_35 rfl (by decide) rfl (fun c35 => absurd c35 (by decide)) (fun c35 => ?_)
    refine wq_l 39 d78_38 rfl rfl rfl rfl ?_
    refine wq_b 53 42 d78_39 rfl (by decide) rfl (fun c39 => absurd c39 ((by simp only [i_lt, i_le, i_eq, ne_eq, Int32.reduceToInt, b2_0, b2_1, decide_eq_true_eq, decide_eq_false_iff_not, Bool.not_eq_true, Bool.not_eq_false] at * <;> omega))) (fun c39 => ?_)
    refine wq_l 43 d78_42 rfl rfl rfl rfl ?_
    refine wq_v 46 [] d78_43 rfl rfl m79 rfl rfl (Nat.le_of_ble_eq_true rfl) rfl (pp79 hK hd hR (fun σ43 hS => ?_))
    refine wq_s 47 d78_46 rfl rfl (Nat.le_of_ble_eq_true rfl) rfl rfl ?_
    refine wq_i 50 d78_47 rfl rfl rfl ?_
    refine wq_g 34 d78_50 (by decide) ?_
    rw [show nI (k + 1) + Int32.ofInt (-1) = nI k from nI_m1 k]
    cases fa : ((pg_any T [0, 2, 4]) c) with
    | true =>
      rw [show b2 true = 1 from rfl]
      exact ih _ _ _ (by omega) (pc_e hS (by simp only [pg_ite, if_true, fa]; done) (by simp only [pg_ite, if_true, fa]; done) : pc_R T n σ0 _ ((pg_block T) c).1 l (s ++ ((pg_block T) c).2)) (fun σ' y w h' => hX σ' y w (pc_e h' (by simp only [pg_whl, pg_ite, pg_seq, pg_nil, if_true, if_false, Bool.false_eq_true, fa]; done) (by simp only [pg_whl, pg_ite, pg_seq, pg_nil, if_true, if_false, Bool.false_eq_true, fa, List.append_assoc, List.nil_append, List.append_nil, List.cons_append, List.singleton_append, List.length_append, List.length_cons, List.length_nil, List.length_singleton]; done)))
    | false =>
      rw [show b2 false = 0 from rfl]
      refine wq_l 35 d78_34 rfl rfl rfl rfl ?_
      refine wq_b 53 38 d78_35 rfl (by decide) rfl (fun _ => ?_) (fun z => absurd rfl z)
      exact hX _ _ _ (pc_e hS (by simp only [pg_whl, pg_ite, pg_seq, pg_nil, if_true, if_false, Bool.false_eq_true, fa]; done) (by simp only [pg_whl, pg_ite, pg_seq, pg_nil, if_true, if_false, Bool.false_eq_true, fa, List.append_assoc, List.nil_append, List.append_nil, List.cons_append, List.singleton_append, List.length_append, List.length_cons, List.length_nil, List.length_singleton]; done))
/-- the fault of a reading -/
def pt_f (T : pg_T) (c : pg_C) : Int32 := if c.2.1 = 2 then 7 else if pg_is T 44 c then 0 else if T.1 c.1 = 45 then nI (T.2.2 c.1) else 6
theorem pq78_53 {d : Nat} {T : pg_T} {n : Nat} {σ0 σ : pm_S} {c : pg_C} {L r : List pg_N} {k0 p0 z0 : Nat} {v0 x : Int32} {Q : Option Value → pm_S → Prop} {w y : Int32} (hK : pc_K T n σ0) (hx : L.length < 16386 → x = nI L.length) (hR : pc_R T n σ0 σ c (L ++ [(k0, p0, v0, z0)]) r) (hQ : ∀ σ', pc_R T n σ0 σ' c L ((k0, p0, v0, r.length + 1) :: r) → Q (some (.int (pt_f T c))) σ') : pm_WP pm_Y0 (pm_call pm_Y0 (d + 10)) 4 prog_6_method_2_code (some FieldType.int) Q 53 [.ref 4, .int x, .int w, .int y] [] σ := by
  refine wq_l 54 d78_53 rfl rfl rfl rfl ?_
  refine wq_gr (ci := 4) (j := 1) (q := 3) 57 d78_54 rfl rfl rfl rfl ?_
  refine wq_l 58 d78_57 rfl rfl rfl rfl ?_
  refine wq_v 61 [_] d78_58 rfl rfl m59 rfl rfl (Nat.le_of_ble_eq_true rfl) rfl (pk59 hx hR (fun σ58 h58 => ?_))
  refine wq_l 62 d78_61 rfl rfl rfl rfl ?_
  refine wq_gi (ci := 4) (j := 3) 65 d78_62 rfl rfl rfl rfl ?_
  rw [h58.2.2.2.2.1]
  refine wq_b 71 68 d78_65 rfl (by decide) rfl (fun c65 => ?_) (fun c65 => ?_)
  · -- pc 71
    have f65 : ¬ c.2.1 = 2 := fun z => by rw [z] at c65; exact absurd c65 (by decide)
    refine wq_l 72 d78_71 rfl rfl rfl rfl ?_
    refine wq_gr (ci := 4) (j := 0) (q := 2) 75 d78_72 rfl rfl rfl rfl ?_
    refine wq_k 77 44 d78_75 (by decide) rfl ?_
    refine wq_v 80 [_] d78_77 rfl rfl m51 rfl rfl (Nat.le_of_ble_eq_true rfl) rfl (pk51 (k := 44) hK (by decide) h58 ?_)
    refine wq_b 87 83 d78_80 rfl (by decide) rfl (fun c80 => ?_) (fun c80 => ?_)
    · -- pc 87
      have f80 := b2z c80
      refine wq_l 88 d78_87 rfl rfl rfl rfl ?_
      refine wq_gr (ci := 4) (j := 0) (q := 2) 91 d78_88 rfl rfl rfl rfl ?_
      refine wq_v 94 [] d78_91 rfl rfl m54 rfl rfl (Nat.le_of_ble_eq_true rfl) rfl (pk54 hK h58 ?_)
      refine wq_ri d78_94 (rfl) ?_
      have hq := hQ _ h58
      unfold pt_f at hq
      first
        | (rw [if_neg f65, if_pos f80] at hq; exact hq)
        | (rw [if_neg f65, if_neg (by rw [f80]; decide)] at hq; exact hq)
    · -- pc 83
      have f80 := b2n c80
      refine wq_k 84 0 d78_83 (by decide) rfl ?_
      refine wq_g 94 d78_84 (by decide) ?_
      refine wq_ri d78_94 (rfl) ?_
      have hq := hQ _ h58
      unfold pt_f at hq
      first
        | (rw [if_neg f65, if_pos f80] at hq; exact hq)
        | (rw [if_neg f65, if_neg (by rw [f80]; decide)] at hq; exact hq)
  · -- pc 68
    have f65 : c.2.1 = 2 := Classical.not_not.mp (fun z => c65 (by rw [show (c.2.1 == 2) = false from by simpa using z]; rfl))
    refine wq_k 70 7 d78_68 (by decide) rfl ?_
    refine wq_ri d78_70 (rfl) ?_
    have hq := hQ _ h58
    rw [show pt_f T c = 7 from if_pos f65] at hq
    exact hq
theorem pp78 {d : Nat} {T : pg_T} {n : Nat} {σ : pm_S} {Q : Option Value → pm_S → Prop} (hK : pc_K T n σ) (hd : 930 ≤ d + 9) (h9 : σ.1 2 9 = 0) (h10 : σ.1 2 10 = nI (T.1 0)) (hQ : ∀ σ', pc_R T n σ σ' (pg_text T (0, 0, 0)).1 [] (pg_text T (0, 0, 0)).2 → Q (some (.int (pt_f T (pg_text T (0, 0, 0)).1))) σ') : pm_call pm_Y0 (d + 11) 78 [.ref 4] σ Q := by
  have hF : pc_F σ σ := ⟨fun a b => Or.inr (Or.inr (Or.inr rfl)), rfl, fun k => Or.inr rfl⟩
  have h0 : pc_R T n σ (pm_pi (pm_pi (pm_pi σ 3 8 0) 4 2 0) 4 3 0) (0, 0, 0) [] [] := ⟨pc_pi (pc_pi (pc_pi hF (by decide)) (by decide)) (by decide), hK.1, h9, h10, rfl, fun _ => ⟨rfl, by decide⟩, ⟨0, by decide, rfl⟩, fun _ => ⟨rfl, fun j x h => by simp at h⟩⟩
  have eT : pg_text T = pg_node 0 (fun _ => 0) (fun _ => 0) (pg_whl (pg_any T [0, 2, 4]) (pg_block T) pg_M) := rfl
  rw [eT] at hQ
  refine wq_m m78 (Nat.le_of_ble_eq_true rfl) (by decide) rfl ?_
  refine wq_l 1 d78_0 rfl rfl rfl rfl ?_
  refine wq_gr (ci := 4) (j := 1) (q := 3) 4 d78_1 rfl rfl rfl rfl ?_
  refine wq_v 7 [] d78_4 rfl rfl m56 rfl rfl (Nat.le_of_ble_eq_true rfl) rfl (pk56 ?_)
  refine wq_l 8 d78_7 rfl rfl rfl rfl ?_
  refine wq_k 9 0 d78_8 (by decide) rfl ?_
  refine wq_pf (ci := 4) (j := 2) 12 d78_9 rfl rfl rfl ⟨rfl, rfl⟩ rfl ?_
  refine wq_l 13 d78_12 rfl rfl rfl rfl ?_
  refine wq_k 14 0 d78_13 (by decide) rfl ?_
  refine wq_pf (ci := 4) (j := 3) 17 d78_14 rfl rfl rfl (⟨by decide, by decide⟩) rfl ?_
  refine wq_l 18 d78_17 rfl rfl rfl rfl ?_
  refine wq_gr (ci := 4) (j := 1) (q := 3) 21 d78_18 rfl rfl rfl rfl ?_
  refine wq_k 22 0 d78_21 (by decide) rfl ?_
  refine wq_k 23 0 d78_22 (by decide) rfl ?_
  refine wq_k 24 0 d78_23 (by decide) rfl ?_
  refine wq_v 27 [_, _, _] d78_24 rfl rfl m57 rfl rfl (Nat.le_of_ble_eq_true rfl) rfl (pk57o (k := 0) (p := 0) h0 (fun σ24 x24 hx24 h24 => ?_))
  refine wq_s 28 d78_27 rfl rfl (Nat.le_of_ble_eq_true rfl) rfl rfl ?_
  refine wq_k 29 1 d78_28 (by decide) rfl ?_
  refine wq_s 30 d78_29 rfl rfl (Nat.le_of_ble_eq_true rfl) rfl rfl ?_
  refine wq_k 33 8192 d78_30 (by decide) rfl ?_
  refine wq_s 34 d78_33 rfl rfl (Nat.le_of_ble_eq_true rfl) rfl rfl ?_
  refine pl78 (x := x24) hK hd pg_M _ _ _ (Nat.le_refl _) h24 (fun σl yl wl hl => ?_)
  generalize pg_whl (pg_any T [0, 2, 4]) (pg_block T) pg_M = W at *
  exact pq78_53 hK hx24 hl (fun σ' h' => hQ σ' (pc_e h' (by simp only [pg_node]; done) (by simp only [pg_node, List.nil_append]; done)))
