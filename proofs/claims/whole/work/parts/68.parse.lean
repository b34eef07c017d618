/-! EXPRESSIONS: by the depth -/
def pe_O (T : pg_T) (n : Nat) (σ0 : pm_S) (D : Nat) (E : pg_P) (c : pg_C) : Prop := ∀ (σ : pm_S) (l s : List pg_N) (Q : Option Value → pm_S → Prop), pc_R T n σ0 σ c l s → (∀ σ', pc_R T n σ0 σ' (E c).1 l (s ++ (E c).2) → Q none σ') → pm_call pm_Y0 D 99 [.ref 4] σ Q
def pe_S (T : pg_T) (n : Nat) (σ0 : pm_S) (f : Nat) : Prop :=
  (∀ D c, 3 * f + 8 ≤ D → (pg_live T c → 2 * (60 - c.2.2) + 1 ≤ f) → pe_O T n σ0 D (pg_X T f 0) c) ∧
  (∀ D m c, 3 * f + 8 ≤ D → 1 ≤ m → m ≤ 9 → (pg_live T c → 2 * (60 - c.2.2) + 2 ≤ f) → pe_E T n σ0 D (nI m - 2) (pg_X T f m) c)
theorem nI2 {m : Nat} (h : m ≤ 9) : (nI m - 2).toInt = (m : Int) - 2 := by
  rw [i_sub _ _ (by rw [nI_toInt (by omega)]; show _ ∧ _; rw [show (2 : Int32).toInt = 2 from rfl]; omega), nI_toInt (by omega)]
  rfl
theorem pe99 {d : Nat} {T : pg_T} {n : Nat} {σ0 : pm_S} {c : pg_C} {f : Nat} (hK : pc_K T n σ0) (hD : 3 * f + 11 ≤ d + 6) (ih : pe_S T n σ0 f) (hH : pg_live T c → 2 * (60 - c.2.2) + 1 ≤ f + 1) : pe_O T n σ0 (d + 6) (pg_oper T (pg_X T f)) c := by
  intro σ l s Q hR hQ
  have kq : ∀ k, k < 100 → (nI (pg_k T c) = nI k ↔ pg_k T c = k) := fun k hk => pc_kq hK hk
  obtain ⟨ihO, ihE⟩ := ih
  have opn1 : ∀ c', pg_live T (pg_opn c') → (pg_opn c').2.2 = c'.2.2 + 1 ∧ c'.2.2 < 60 := fun c' z => by
    obtain ⟨o1, _, o3⟩ := pg_lopn z
    exact ⟨by rw [o3], o1⟩
  have isn : ∀ k, k < 100 → ¬ nI (pg_k T c) = nI k → pg_is T k c = false := fun k hk w => by
    cases e : pg_is T k c with
    | false => rfl
    | true => exact absurd ((kq k hk).mpr (pg_isk e)) w
  refine wq_m m99 (Nat.le_of_ble_eq_true rfl) (by decide) rfl ?_
  refine wq_l 1 d99_0 rfl rfl rfl rfl ?_
  refine wq_gr (ci := 4) (j := 0) (q := 2) 4 d99_1 rfl rfl rfl rfl ?_
  refine wq_v 7 [] d99_4 rfl rfl m45 rfl rfl (Nat.le_of_ble_eq_true rfl) rfl (pk45 hR ?_)
  refine wq_lsw [(34, 72), (35, 135), (36, 135), (41, 173), (42, 135), (52, 142), (61, 72)] 219 d99_7 (by decide) (List.forall_mem_cons.mpr ⟨fun e7 => ?_, List.forall_mem_cons.mpr ⟨fun e7 => ?_, List.forall_mem_cons.mpr ⟨fun e7 => ?_, List.forall_mem_cons.mpr ⟨fun e7 => ?_, List.forall_mem_cons.mpr ⟨fun e7 => ?_, List.forall_mem_cons.mpr ⟨fun e7 => ?_, List.forall_mem_cons.mpr ⟨fun e7 => ?_, fun _ h => absurd h List.not_mem_nil⟩⟩⟩⟩⟩⟩⟩) (fun e7 => ?_)
  · -- case 34
    have hk := (kq 34 (by decide)).mp e7
    have hlc := pg_kl hk (by decide)
    have hHc := hH hlc.1
    have a1 : pg_any T [61, 34] c = true := pg_any3 hk (by decide)
    have a2 : pg_any T [42, 35, 36] c = false := pg_anyn (by intro j hj z; rw [hk] at z; subst z; revert hj; decide)
    have a3 : pg_is T 52 c = false := pg_isn hk (by decide)
    have a4 : pg_is T 41 c = false := pg_isn hk (by decide)
    have hst : pg_stp c = (c.1 + 1, c.2.1, c.2.2) := if_pos hlc.1.1
    refine wq_l 73 d99_72 rfl rfl rfl rfl ?_
    refine wq_gr (ci := 4) (j := 1) (q := 3) 76 d99_73 rfl rfl rfl rfl ?_
    refine wq_k 78 36 d99_76 (by decide) rfl ?_
    refine wq_l 79 d99_78 rfl rfl rfl rfl ?_
    refine wq_gr (ci := 4) (j := 0) (q := 2) 82 d99_79 rfl rfl rfl rfl ?_
    refine wq_v 85 [] d99_82 rfl rfl m46 rfl rfl (Nat.le_of_ble_eq_true rfl) rfl (pk46 hK hR ?_)
    refine wq_l 86 d99_85 rfl rfl rfl rfl ?_
    refine wq_gr (ci := 4) (j := 0) (q := 2) 89 d99_86 rfl rfl rfl rfl ?_
    refine wq_k 91 34 d99_89 (by decide) rfl ?_
    refine wq_v 94 [_] d99_91 rfl rfl m51 rfl rfl (Nat.le_of_ble_eq_true rfl) rfl (pk51 (k := 34) hK (by decide) hR ?_)
    refine wq_b 101 97 d99_94 rfl (by decide) rfl (fun c94 => ?_) (fun c94 => ?_)
    · -- pc 101
      have f94 := b2z c94
      refine wq_k 102 0 d99_101 (by decide) rfl ?_
      refine wq_v 105 [_, _, _] d99_102 rfl rfl m57 rfl rfl (Nat.le_of_ble_eq_true rfl) rfl (pk57o (k := 36) hR (fun σ102 x102 hx102 h102 => ?_))
      refine wq_s 106 d99_105 rfl rfl (Nat.le_of_ble_eq_true rfl) rfl rfl ?_
      refine wq_l 107 d99_106 rfl rfl rfl rfl ?_
      refine wq_v 110 [] d99_107 rfl rfl m97 rfl rfl (Nat.le_of_ble_eq_true rfl) rfl (pk97 hK h102 (hlc).1 (hlc).2 (fun σ107 h107 => ?_))
      refine wq_l 111 d99_110 rfl rfl rfl rfl ?_
      refine wq_v 114 [] d99_111 rfl rfl m99 rfl rfl (Nat.le_of_ble_eq_true rfl) rfl (ihO _ _ (by omega) (fun z => by have := opn1 c z; omega) _ _ _ _ h107 (fun σ111 h111 => ?_))
      refine wq_l 115 d99_114 rfl rfl rfl rfl ?_
      refine wq_a 116 d99_115 rfl rfl ?_
      refine wq_gi (ci := 4) (j := 2) 119 d99_116 rfl rfl rfl rfl ?_
      refine wq_k 120 1 d99_119 (by decide) rfl ?_
      refine wq_a 121 d99_120 rfl rfl ?_
      refine wq_pf (ci := 4) (j := 2) 124 d99_121 rfl rfl rfl ⟨rfl, rfl⟩ rfl ?_
      have hd121 := pc_dec h111 (fun z => pg_o1 (pg_oX T f 0 (by decide)) (pg_dX T f 0) z)
      refine wq_l 125 d99_124 rfl rfl rfl rfl ?_
      refine wq_gr (ci := 4) (j := 1) (q := 3) 128 d99_125 rfl rfl rfl rfl ?_
      refine wq_l 129 d99_128 rfl rfl rfl rfl ?_
      refine wq_v 132 [_] d99_129 rfl rfl m59 rfl rfl (Nat.le_of_ble_eq_true rfl) rfl (pk59 hx102 hd121 (fun σ129 h129 => ?_))
      refine wq_g 226 d99_132 (by decide) ?_
      refine wq_rv d99_226 ?_
      exact hQ _ (pc_e h129 (by first | (simp only [pg_oper, pg_ite, pg_node, pg_seq, pg_tok, if_true, if_false, Bool.false_eq_true, a1, a2, a3, a4, f94]; done) | rfl) (by simp only [pg_oper, pg_ite, pg_node, pg_seq, pg_tok, List.append_assoc, List.nil_append, List.append_nil, List.cons_append, List.singleton_append, List.length_append, List.length_cons, List.length_nil, List.length_singleton, if_true, if_false, Bool.false_eq_true, a1, a2, a3, a4, f94]; done))
    · -- pc 97
      have f94 := b2n c94
      refine wq_k 98 1 d99_97 (by decide) rfl ?_
      refine wq_g 102 d99_98 (by decide) ?_
      refine wq_v 105 [_, _, _] d99_102 rfl rfl m57 rfl rfl (Nat.le_of_ble_eq_true rfl) rfl (pk57o (k := 36) hR (fun σ102 x102 hx102 h102 => ?_))
      refine wq_s 106 d99_105 rfl rfl (Nat.le_of_ble_eq_true rfl) rfl rfl ?_
      refine wq_l 107 d99_106 rfl rfl rfl rfl ?_
      refine wq_v 110 [] d99_107 rfl rfl m97 rfl rfl (Nat.le_of_ble_eq_true rfl) rfl (pk97 hK h102 (hlc).1 (hlc).2 (fun σ107 h107 => ?_))
      refine wq_l 111 d99_110 rfl rfl rfl rfl ?_
      refine wq_v 114 [] d99_111 rfl rfl m99 rfl rfl (Nat.le_of_ble_eq_true rfl) rfl (ihO _ _ (by omega) (fun z => by have := opn1 c z; omega) _ _ _ _ h107 (fun σ111 h111 => ?_))
      refine wq_l 115 d99_114 rfl rfl rfl rfl ?_
      refine wq_a 116 d99_115 rfl rfl ?_
      refine wq_gi (ci := 4) (j := 2) 119 d99_116 rfl rfl rfl rfl ?_
      refine wq_k 120 1 d99_119 (by decide) rfl ?_
      refine wq_a 121 d99_120 rfl rfl ?_
      refine wq_pf (ci := 4) (j := 2) 124 d99_121 rfl rfl rfl ⟨rfl, rfl⟩ rfl ?_
      have hd121 := pc_dec h111 (fun z => pg_o1 (pg_oX T f 0 (by decide)) (pg_dX T f 0) z)
      refine wq_l 125 d99_124 rfl rfl rfl rfl ?_
      refine wq_gr (ci := 4) (j := 1) (q := 3) 128 d99_125 rfl rfl rfl rfl ?_
      refine wq_l 129 d99_128 rfl rfl rfl rfl ?_
      refine wq_v 132 [_] d99_129 rfl rfl m59 rfl rfl (Nat.le_of_ble_eq_true rfl) rfl (pk59 hx102 hd121 (fun σ129 h129 => ?_))
      refine wq_g 226 d99_132 (by decide) ?_
      refine wq_rv d99_226 ?_
      exact hQ _ (pc_e h129 (by first | (simp only [pg_oper, pg_ite, pg_node, pg_seq, pg_tok, if_true, if_false, Bool.false_eq_true, a1, a2, a3, a4, f94]; done) | rfl) (by simp only [pg_oper, pg_ite, pg_node, pg_seq, pg_tok, List.append_assoc, List.nil_append, List.append_nil, List.cons_append, List.singleton_append, List.length_append, List.length_cons, List.length_nil, List.length_singleton, if_true, if_false, Bool.false_eq_true, a1, a2, a3, a4, f94]; done))
  · -- case 35
    have hk := (kq 35 (by decide)).mp e7
    have hlc := pg_kl hk (by decide)
    have hHc := hH hlc.1
    have a1 : pg_any T [61, 34] c = false := pg_anyn (by intro j hj z; rw [hk] at z; subst z; revert hj; decide)
    have a2 : pg_any T [42, 35, 36] c = true := pg_any3 hk (by decide)
    have a3 : pg_is T 52 c = false := pg_isn hk (by decide)
    have a4 : pg_is T 41 c = false := pg_isn hk (by decide)
    have hst : pg_stp c = (c.1 + 1, c.2.1, c.2.2) := if_pos hlc.1.1
    refine wq_l 136 d99_135 rfl rfl rfl rfl ?_
    refine wq_v 139 [] d99_136 rfl rfl m86 rfl rfl (Nat.le_of_ble_eq_true rfl) rfl (pp86 hK hR (fun σ136 h136 => ?_))
    refine wq_g 226 d99_139 (by decide) ?_
    refine wq_rv d99_226 ?_
    exact hQ _ (pc_e h136 (by first | (simp only [pg_oper, pg_ite, pg_node, pg_seq, pg_tok, if_true, if_false, Bool.false_eq_true, a1, a2, a3, a4]; done) | rfl) (by simp only [pg_oper, pg_ite, pg_node, pg_seq, pg_tok, List.append_assoc, List.nil_append, List.append_nil, List.cons_append, List.singleton_append, List.length_append, List.length_cons, List.length_nil, List.length_singleton, if_true, if_false, Bool.false_eq_true, a1, a2, a3, a4]; done))
  · -- case 36
    have hk := (kq 36 (by decide)).mp e7
    have hlc := pg_kl hk (by decide)
    have hHc := hH hlc.1
    have a1 : pg_any T [61, 34] c = false := pg_anyn (by intro j hj z; rw [hk] at z; subst z; revert hj; decide)
    have a2 : pg_any T [42, 35, 36] c = true := pg_any3 hk (by decide)
    have a3 : pg_is T 52 c = false := pg_isn hk (by decide)
    have a4 : pg_is T 41 c = false := pg_isn hk (by decide)
    have hst : pg_stp c = (c.1 + 1, c.2.1, c.2.2) := if_pos hlc.1.1
    refine wq_l 136 d99_135 rfl rfl rfl rfl ?_
    refine wq_v 139 [] d99_136 rfl rfl m86 rfl rfl (Nat.le_of_ble_eq_true rfl) rfl (pp86 hK hR (fun σ136 h136 => ?_))
    refine wq_g 226 d99_139 (by decide) ?_
    refine wq_rv d99_226 ?_
    exact hQ _ (pc_e h136 (by first | (simp only [pg_oper, pg_ite, pg_node, pg_seq, pg_tok, if_true, if_false, Bool.false_eq_true, a1, a2, a3, a4]; done) | rfl) (by simp only [pg_oper, pg_ite, pg_node, pg_seq, pg_tok, List.append_assoc, List.nil_append, List.append_nil, List.cons_append, List.singleton_append, List.length_append, List.length_cons, List.length_nil, List.length_singleton, if_true, if_false, Bool.false_eq_true, a1, a2, a3, a4]; done))
  · -- case 41
    have hk := (kq 41 (by decide)).mp e7
    have hlc := pg_kl hk (by decide)
    have hHc := hH hlc.1
    have a1 : pg_any T [61, 34] c = false := pg_anyn (by intro j hj z; rw [hk] at z; subst z; revert hj; decide)
    have a2 : pg_any T [42, 35, 36] c = false := pg_anyn (by intro j hj z; rw [hk] at z; subst z; revert hj; decide)
    have a3 : pg_is T 52 c = false := pg_isn hk (by decide)
    have a4 : pg_is T 41 c = true := pg_isy hk
    have hst : pg_stp c = (c.1 + 1, c.2.1, c.2.2) := if_pos hlc.1.1
    have nxl : ∀ k, pg_next T k c = true → k ≠ 44 ∧ k ≠ 45 ∧ k ≠ 46 → pg_live T (pg_stp c) ∧ T.1 (pg_stp c).1 ≠ 44 := fun k z w => by
      rw [hst]
      have z : T.1 (c.1 + 1) = k := by unfold pg_next at z; simpa using z
      exact ⟨⟨hlc.1.1, by show T.1 (c.1 + 1) ≠ 45; omega⟩, by show T.1 (c.1 + 1) ≠ 44; omega⟩
    refine wq_l 174 d99_173 rfl rfl rfl rfl ?_
    refine wq_gr (ci := 4) (j := 0) (q := 2) 177 d99_174 rfl rfl rfl rfl ?_
    refine wq_k 179 54 d99_177 (by decide) rfl ?_
    refine wq_v 182 [_] d99_179 rfl rfl m53 rfl rfl (Nat.le_of_ble_eq_true rfl) rfl (pk53 (k := 54) hK (by decide) hR ?_)
    refine wq_b 193 185 d99_182 rfl (by decide) rfl (fun c182 => ?_) (fun c182 => ?_)
    · -- pc 193
      have f182 := b2z c182
      refine wq_l 194 d99_193 rfl rfl rfl rfl ?_
      refine wq_gr (ci := 4) (j := 0) (q := 2) 197 d99_194 rfl rfl rfl rfl ?_
      refine wq_k 199 52 d99_197 (by decide) rfl ?_
      refine wq_v 202 [_] d99_199 rfl rfl m53 rfl rfl (Nat.le_of_ble_eq_true rfl) rfl (pk53 (k := 52) hK (by decide) hR ?_)
      refine wq_b 212 205 d99_202 rfl (by decide) rfl (fun c202 => ?_) (fun c202 => ?_)
      · -- pc 212
        have f202 := b2z c202
        refine wq_l 213 d99_212 rfl rfl rfl rfl ?_
        refine wq_v 216 [] d99_213 rfl rfl m92 rfl rfl (Nat.le_of_ble_eq_true rfl) rfl (pp92 hK hR (fun σ213 h213 => ?_))
        refine wq_g 226 d99_216 (by decide) ?_
        refine wq_rv d99_226 ?_
        exact hQ _ (pc_e h213 (by first | (simp only [pg_oper, pg_ite, pg_node, pg_seq, pg_tok, if_true, if_false, Bool.false_eq_true, a1, a2, a3, a4, f182, f202]; done) | rfl) (by simp only [pg_oper, pg_ite, pg_node, pg_seq, pg_tok, List.append_assoc, List.nil_append, List.append_nil, List.cons_append, List.singleton_append, List.length_append, List.length_cons, List.length_nil, List.length_singleton, if_true, if_false, Bool.false_eq_true, a1, a2, a3, a4, f182, f202]; done))
      · -- pc 205
        have f202 := b2n c202
        refine wq_l 206 d99_205 rfl rfl rfl rfl ?_
        refine wq_v 209 [] d99_206 rfl rfl m101 rfl rfl (Nat.le_of_ble_eq_true rfl) rfl (pe101 (f := c.2.2 + 1) hK hlc (nxl 52 f202 (by decide)) (pg_oX T f 2 (by decide)) (pg_dX T f 2) (fun c1 h1 σ1 l1 s1 Q1 hR1 hQ1 => ihE _ 2 c1 (by omega) (by decide) (by decide) (fun z => by have := h1 z; have := (pc_op hR1 z).2; omega) σ1 l1 s1 Q1 hR1 hQ1) (fun z => by have := opn1 (pg_stp c) z; rw [hst] at this z ⊢; simp only at this ⊢; omega) hR (fun σ206 h206 => ?_))
        refine wq_g 226 d99_209 (by decide) ?_
        refine wq_rv d99_226 ?_
        exact hQ _ (pc_e h206 (by first | (simp only [pg_oper, pg_ite, pg_node, pg_seq, pg_tok, if_true, if_false, Bool.false_eq_true, a1, a2, a3, a4, f182, f202]; done) | rfl) (by simp only [pg_oper, pg_ite, pg_node, pg_seq, pg_tok, List.append_assoc, List.nil_append, List.append_nil, List.cons_append, List.singleton_append, List.length_append, List.length_cons, List.length_nil, List.length_singleton, if_true, if_false, Bool.false_eq_true, a1, a2, a3, a4, f182, f202]; done))
    · -- pc 185
      have f182 := b2n c182
      refine wq_l 186 d99_185 rfl rfl rfl rfl ?_
      refine wq_k 187 0 d99_186 (by decide) rfl ?_
      refine wq_v 190 [_] d99_187 rfl rfl m100 rfl rfl (Nat.le_of_ble_eq_true rfl) rfl (pe100 (cl := 0) hK hlc (nxl 54 f182 (by decide)) (pg_oX T f 2 (by decide)) (pg_dX T f 2) (ihE _ 2 _ (by omega) (by decide) (by decide) (fun z => by have := opn1 (pg_stp c) z; rw [hst] at this z ⊢; simp only at this ⊢; omega)) hR (fun σ187 h187 => ?_))
      refine wq_g 226 d99_190 (by decide) ?_
      refine wq_rv d99_226 ?_
      exact hQ _ (pc_e h187 (by first | (simp only [pg_oper, pg_ite, pg_node, pg_seq, pg_tok, if_true, if_false, Bool.false_eq_true, a1, a2, a3, a4, f182]; done) | rfl) (by simp only [pg_oper, pg_ite, pg_node, pg_seq, pg_tok, List.append_assoc, List.nil_append, List.append_nil, List.cons_append, List.singleton_append, List.length_append, List.length_cons, List.length_nil, List.length_singleton, if_true, if_false, Bool.false_eq_true, a1, a2, a3, a4, f182]; done))
  · -- case 42
    have hk := (kq 42 (by decide)).mp e7
    have hlc := pg_kl hk (by decide)
    have hHc := hH hlc.1
    have a1 : pg_any T [61, 34] c = false := pg_anyn (by intro j hj z; rw [hk] at z; subst z; revert hj; decide)
    have a2 : pg_any T [42, 35, 36] c = true := pg_any3 hk (by decide)
    have a3 : pg_is T 52 c = false := pg_isn hk (by decide)
    have a4 : pg_is T 41 c = false := pg_isn hk (by decide)
    have hst : pg_stp c = (c.1 + 1, c.2.1, c.2.2) := if_pos hlc.1.1
    refine wq_l 136 d99_135 rfl rfl rfl rfl ?_
    refine wq_v 139 [] d99_136 rfl rfl m86 rfl rfl (Nat.le_of_ble_eq_true rfl) rfl (pp86 hK hR (fun σ136 h136 => ?_))
    refine wq_g 226 d99_139 (by decide) ?_
    refine wq_rv d99_226 ?_
    exact hQ _ (pc_e h136 (by first | (simp only [pg_oper, pg_ite, pg_node, pg_seq, pg_tok, if_true, if_false, Bool.false_eq_true, a1, a2, a3, a4]; done) | rfl) (by simp only [pg_oper, pg_ite, pg_node, pg_seq, pg_tok, List.append_assoc, List.nil_append, List.append_nil, List.cons_append, List.singleton_append, List.length_append, List.length_cons, List.length_nil, List.length_singleton, if_true, if_false, Bool.false_eq_true, a1, a2, a3, a4]; done))
  · -- case 52
    have hk := (kq 52 (by decide)).mp e7
    have hlc := pg_kl hk (by decide)
    have hHc := hH hlc.1
    have a1 : pg_any T [61, 34] c = false := pg_anyn (by intro j hj z; rw [hk] at z; subst z; revert hj; decide)
    have a2 : pg_any T [42, 35, 36] c = false := pg_anyn (by intro j hj z; rw [hk] at z; subst z; revert hj; decide)
    have a3 : pg_is T 52 c = true := pg_isy hk
    have a4 : pg_is T 41 c = false := pg_isn hk (by decide)
    have hst : pg_stp c = (c.1 + 1, c.2.1, c.2.2) := if_pos hlc.1.1
    refine wq_l 143 d99_142 rfl rfl rfl rfl ?_
    refine wq_v 146 [] d99_143 rfl rfl m97 rfl rfl (Nat.le_of_ble_eq_true rfl) rfl (pk97 hK hR (hlc).1 (hlc).2 (fun σ143 h143 => ?_))
    refine wq_l 147 d99_146 rfl rfl rfl rfl ?_
    refine wq_k 148 0 d99_147 (by decide) rfl ?_
    refine wq_v 151 [_] d99_148 rfl rfl m98 rfl rfl (Nat.le_of_ble_eq_true rfl) rfl (ihE _ 2 _ (by omega) (by decide) (by decide) (fun z => by have := opn1 c z; omega) _ _ _ _ h143 (fun σ148 h148 => ?_))
    refine wq_l 152 d99_151 rfl rfl rfl rfl ?_
    refine wq_a 153 d99_152 rfl rfl ?_
    refine wq_gi (ci := 4) (j := 2) 156 d99_153 rfl rfl rfl rfl ?_
    refine wq_k 157 1 d99_156 (by decide) rfl ?_
    refine wq_a 158 d99_157 rfl rfl ?_
    refine wq_pf (ci := 4) (j := 2) 161 d99_158 rfl rfl rfl ⟨rfl, rfl⟩ rfl ?_
    have hd158 := pc_dec h148 (fun z => pg_o1 (pg_oX T f 2 (by decide)) (pg_dX T f 2) z)
    refine wq_l 162 d99_161 rfl rfl rfl rfl ?_
    refine wq_gr (ci := 4) (j := 0) (q := 2) 165 d99_162 rfl rfl rfl rfl ?_
    refine wq_k 167 53 d99_165 (by decide) rfl ?_
    refine wq_v 170 [_] d99_167 rfl rfl m49 rfl rfl (Nat.le_of_ble_eq_true rfl) rfl (pk49 (k := 53) hK (by decide) hd158 (fun σ167 h167 => ?_))
    refine wq_g 226 d99_170 (by decide) ?_
    refine wq_rv d99_226 ?_
    exact hQ _ (pc_e h167 (by first | (simp only [pg_oper, pg_ite, pg_node, pg_seq, pg_tok, if_true, if_false, Bool.false_eq_true, a1, a2, a3, a4]; done) | rfl) (by simp only [pg_oper, pg_ite, pg_node, pg_seq, pg_tok, List.append_assoc, List.nil_append, List.append_nil, List.cons_append, List.singleton_append, List.length_append, List.length_cons, List.length_nil, List.length_singleton, if_true, if_false, Bool.false_eq_true, a1, a2, a3, a4]; done))
  · -- case 61
    have hk := (kq 61 (by decide)).mp e7
    have hlc := pg_kl hk (by decide)
    have hHc := hH hlc.1
    have a1 : pg_any T [61, 34] c = true := pg_any3 hk (by decide)
    have a2 : pg_any T [42, 35, 36] c = false := pg_anyn (by intro j hj z; rw [hk] at z; subst z; revert hj; decide)
    have a3 : pg_is T 52 c = false := pg_isn hk (by decide)
    have a4 : pg_is T 41 c = false := pg_isn hk (by decide)
    have hst : pg_stp c = (c.1 + 1, c.2.1, c.2.2) := if_pos hlc.1.1
    refine wq_l 73 d99_72 rfl rfl rfl rfl ?_
    refine wq_gr (ci := 4) (j := 1) (q := 3) 76 d99_73 rfl rfl rfl rfl ?_
    refine wq_k 78 36 d99_76 (by decide) rfl ?_
    refine wq_l 79 d99_78 rfl rfl rfl rfl ?_
    refine wq_gr (ci := 4) (j := 0) (q := 2) 82 d99_79 rfl rfl rfl rfl ?_
    refine wq_v 85 [] d99_82 rfl rfl m46 rfl rfl (Nat.le_of_ble_eq_true rfl) rfl (pk46 hK hR ?_)
    refine wq_l 86 d99_85 rfl rfl rfl rfl ?_
    refine wq_gr (ci := 4) (j := 0) (q := 2) 89 d99_86 rfl rfl rfl rfl ?_
    refine wq_k 91 34 d99_89 (by decide) rfl ?_
    refine wq_v 94 [_] d99_91 rfl rfl m51 rfl rfl (Nat.le_of_ble_eq_true rfl) rfl (pk51 (k := 34) hK (by decide) hR ?_)
    refine wq_b 101 97 d99_94 rfl (by decide) rfl (fun c94 => ?_) (fun c94 => ?_)
    · -- pc 101
      have f94 := b2z c94
      refine wq_k 102 0 d99_101 (by decide) rfl ?_
      refine wq_v 105 [_, _, _] d99_102 rfl rfl m57 rfl rfl (Nat.le_of_ble_eq_true rfl) rfl (pk57o (k := 36) hR (fun σ102 x102 hx102 h102 => ?_))
      refine wq_s 106 d99_105 rfl rfl (Nat.le_of_ble_eq_true rfl) rfl rfl ?_
      refine wq_l 107 d99_106 rfl rfl rfl rfl ?_
      refine wq_v 110 [] d99_107 rfl rfl m97 rfl rfl (Nat.le_of_ble_eq_true rfl) rfl (pk97 hK h102 (hlc).1 (hlc).2 (fun σ107 h107 => ?_))
      refine wq_l 111 d99_110 rfl rfl rfl rfl ?_
      refine wq_v 114 [] d99_111 rfl rfl m99 rfl rfl (Nat.le_of_ble_eq_true rfl) rfl (ihO _ _ (by omega) (fun z => by have := opn1 c z; omega) _ _ _ _ h107 (fun σ111 h111 => ?_))
      refine wq_l 115 d99_114 rfl rfl rfl rfl ?_
      refine wq_a 116 d99_115 rfl rfl ?_
      refine wq_gi (ci := 4) (j := 2) 119 d99_116 rfl rfl rfl rfl ?_
      refine wq_k 120 1 d99_119 (by decide) rfl ?_
      refine wq_a 121 d99_120 rfl rfl ?_
      refine wq_pf (ci := 4) (j := 2) 124 d99_121 rfl rfl rfl ⟨rfl, rfl⟩ rfl ?_
      have hd121 := pc_dec h111 (fun z => pg_o1 (pg_oX T f 0 (by decide)) (pg_dX T f 0) z)
      refine wq_l 125 d99_124 rfl rfl rfl rfl ?_
      refine wq_gr (ci := 4) (j := 1) (q := 3) 128 d99_125 rfl rfl rfl rfl ?_
      refine wq_l 129 d99_128 rfl rfl rfl rfl ?_
      refine wq_v 132 [_] d99_129 rfl rfl m59 rfl rfl (Nat.le_of_ble_eq_true rfl) rfl (pk59 hx102 hd121 (fun σ129 h129 => ?_))
      refine wq_g 226 d99_132 (by decide) ?_
      refine wq_rv d99_226 ?_
      exact hQ _ (pc_e h129 (by first | (simp only [pg_oper, pg_ite, pg_node, pg_seq, pg_tok, if_true, if_false, Bool.false_eq_true, a1, a2, a3, a4, f94]; done) | rfl) (by simp only [pg_oper, pg_ite, pg_node, pg_seq, pg_tok, List.append_assoc, List.nil_append, List.append_nil, List.cons_append, List.singleton_append, List.length_append, List.length_cons, List.length_nil, List.length_singleton, if_true, if_false, Bool.false_eq_true, a1, a2, a3, a4, f94]; done))
    · -- pc 97
      have f94 := b2n c94
      refine wq_k 98 1 d99_97 (by decide) rfl ?_
      refine wq_g 102 d99_98 (by decide) ?_
      refine wq_v 105 [_, _, _] d99_102 rfl rfl m57 rfl rfl (Nat.le_of_ble_eq_true rfl) rfl (pk57o (k := 36) hR (fun σ102 x102 hx102 h102 => ?_))
      refine wq_s 106 d99_105 rfl rfl (Nat.le_of_ble_eq_true rfl) rfl rfl ?_
      refine wq_l 107 d99_106 rfl rfl rfl rfl ?_
      refine wq_v 110 [] d99_107 rfl rfl m97 rfl rfl (Nat.le_of_ble_eq_true rfl) rfl (pk97 hK h102 (hlc).1 (hlc).2 (fun σ107 h107 => ?_))
      refine wq_l 111 d99_110 rfl rfl rfl rfl ?_
      refine wq_v 114 [] d99_111 rfl rfl m99 rfl rfl (Nat.le_of_ble_eq_true rfl) rfl (ihO _ _ (by omega) (fun z => by have := opn1 c z; omega) _ _ _ _ h107 (fun σ111 h111 => ?_))
      refine wq_l 115 d99_114 rfl rfl rfl rfl ?_
      refine wq_a 116 d99_115 rfl rfl ?_
      refine wq_gi (ci := 4) (j := 2) 119 d99_116 rfl rfl rfl rfl ?_
      refine wq_k 120 1 d99_119 (by decide) rfl ?_
      refine wq_a 121 d99_120 rfl rfl ?_
      refine wq_pf (ci := 4) (j := 2) 124 d99_121 rfl rfl rfl ⟨rfl, rfl⟩ rfl ?_
      have hd121 := pc_dec h111 (fun z => pg_o1 (pg_oX T f 0 (by decide)) (pg_dX T f 0) z)
      refine wq_l 125 d99_124 rfl rfl rfl rfl ?_
      refine wq_gr (ci := 4) (j := 1) (q := 3) 128 d99_125 rfl rfl rfl rfl ?_
      refine wq_l 129 d99_128 rfl rfl rfl rfl ?_
      refine wq_v 132 [_] d99_129 rfl rfl m59 rfl rfl (Nat.le_of_ble_eq_true rfl) rfl (pk59 hx102 hd121 (fun σ129 h129 => ?_))
      refine wq_g 226 d99_132 (by decide) ?_
      refine wq_rv d99_226 ?_
      exact hQ _ (pc_e h129 (by first | (simp only [pg_oper, pg_ite, pg_node, pg_seq, pg_tok, if_true, if_false, Bool.false_eq_true, a1, a2, a3, a4, f94]; done) | rfl) (by simp only [pg_oper, pg_ite, pg_node, pg_seq, pg_tok, List.append_assoc, List.nil_append, List.append_nil, List.cons_append, List.singleton_append, List.length_append, List.length_cons, List.length_nil, List.length_singleton, if_true, if_false, Bool.false_eq_true, a1, a2, a3, a4, f94]; done))
  · -- default
    have w7_34 := e7 (34, 72) (by decide)
    have w7_35 := e7 (35, 135) (by decide)
    have w7_36 := e7 (36, 135) (by decide)
    have w7_41 := e7 (41, 173) (by decide)
    have w7_42 := e7 (42, 135) (by decide)
    have w7_52 := e7 (52, 142) (by decide)
    have w7_61 := e7 (61, 72) (by decide)
    have a1 : pg_any T [61, 34] c = false := pg_anyn (by
      intro k hk
      simp only [List.mem_cons, List.not_mem_nil, or_false] at hk
      rcases hk with z | z <;> subst z <;> intro w
      · exact w7_61 ((kq 61 (by decide)).mpr w)
      · exact w7_34 ((kq 34 (by decide)).mpr w))
    have a2 : pg_any T [42, 35, 36] c = false := pg_anyn (by
      intro k hk
      simp only [List.mem_cons, List.not_mem_nil, or_false] at hk
      rcases hk with z | z | z <;> subst z <;> intro w
      · exact w7_42 ((kq 42 (by decide)).mpr w)
      · exact w7_35 ((kq 35 (by decide)).mpr w)
      · exact w7_36 ((kq 36 (by decide)).mpr w))
    have a3 := isn 52 (by decide) w7_52
    have a4 := isn 41 (by decide) w7_41
    refine wq_l 220 d99_219 rfl rfl rfl rfl ?_
    refine wq_gr (ci := 4) (j := 0) (q := 2) 223 d99_220 rfl rfl rfl rfl ?_
    refine wq_v 226 [] d99_223 rfl rfl m50 rfl rfl (Nat.le_of_ble_eq_true rfl) rfl (pk50 hR (fun σ223 h223 => ?_))
    refine wq_rv d99_226 ?_
    exact hQ _ (pc_e h223 (by first | (simp only [pg_oper, pg_ite, pg_node, pg_seq, pg_tok, if_true, if_false, Bool.false_eq_true, a1, a2, a3, a4]; done) | rfl) (by simp only [pg_oper, pg_ite, pg_node, pg_seq, pg_tok, List.append_assoc, List.nil_append, List.append_nil, List.cons_append, List.singleton_append, List.length_append, List.length_cons, List.length_nil, List.length_singleton, if_true, if_false, Bool.false_eq_true, a1, a2, a3, a4]; done))
theorem pg_more_s {T : pg_T} {X : Nat → pg_P} {m k g : Nat} {c : pg_C} {r : List pg_N} (hg : pg_sign (pg_k T c) = some g) (hle : m ≤ pg_bind g + 2) : pg_more T X m (k + 1) c r = pg_more T X m k (X (pg_bind g + 3) (pg_opn c)).1 ((35, pg_pl T c, nI g, (r ++ (X (pg_bind g + 3) (pg_opn c)).2).length + 1) :: (r ++ (X (pg_bind g + 3) (pg_opn c)).2)) := by
  rw [pg_more, hg]
  exact if_pos hle
theorem pl98 {d : Nat} {T : pg_T} {n : Nat} {σ0 : pm_S} {L : List pg_N} {f mm : Nat} {bf x : Int32} {Q : Option Value → pm_S → Prop} (hK : pc_K T n σ0) (hD : 3 * f + 8 ≤ d + 5) (ih : pe_S T n σ0 f) (hm : 1 ≤ mm ∧ mm ≤ 9) (hx : L.length ≤ 16386 → x = nI L.length) (hx0 : ¬ x < 0) : ∀ (k : Nat) (σ : pm_S) (c : pg_C) (r : List pg_N), k ≤ 8192 → (pg_live T c → 2 * (60 - c.2.2) ≤ f) → pc_R T n σ0 σ c L r → (∀ σ' (y z : Int32), pc_R T n σ0 σ' (pg_more T (pg_X T f) mm k c r).1 L (pg_more T (pg_X T f) mm k c r).2 → pm_WP pm_Y0 (pm_call pm_Y0 (d + 5)) 4 prog_6_method_21_code none Q 112 [.ref 4, .int (nI mm - 2), .int bf, .int x, .int z, .int y] [] σ') → pm_WP pm_Y0 (pm_call pm_Y0 (d + 5)) 4 prog_6_method_21_code none Q 28 [.ref 4, .int (nI mm - 2), .int bf, .int x, .int (pg_so (pg_sign (pg_k T c))), .int (nI k)] [] σ := by
  have hm2 := nI2 hm.2
  intro k
  induction k with
  | zero =>
    intro σ c r hk hf hR hX
    refine wq_l 30 d98_28 rfl rfl rfl rfl ?_
    refine wq_b 112 33 d98_30 rfl (by decide) rfl (fun c30 => ?_) (fun c30 => absurd (by decide) c30)
    exact hX _ _ _ hR
  | succ k ihk =>
    intro σ c r hk hf hR hX
    have ek := nI_toInt (n := k + 1) (by omega)
    cases hg : pg_sign (pg_k T c) with
    | none =>
      have hX' : ∀ (y z : Int32), pm_WP pm_Y0 (pm_call pm_Y0 (d + 5)) 4 prog_6_method_21_code none Q 112 [.ref 4, .int (nI mm - 2), .int bf, .int x, .int z, .int y] [] σ := fun y z => hX _ y z (by
        rw [show pg_more T (pg_X T f) mm (k + 1) c r = (c, r) from by unfold pg_more; rw [hg]]
        exact hR)
      refine wq_l 30 d98_28 rfl rfl rfl rfl ?_
      refine wq_b 112 33 d98_30 rfl (by decide) rfl (fun c30 => absurd c30 ((by simp only [i_lt, i_le, i_eq, ne_eq, Int32.reduceToInt, b2_0, b2_1, decide_eq_true_eq, decide_eq_false_iff_not, Bool.not_eq_true, Bool.not_eq_false] at * <;> omega))) (fun c30 => ?_)
      refine wq_l 35 d98_33 rfl rfl rfl rfl ?_
      refine wq_b 112 38 d98_35 rfl (by decide) rfl (fun c35 => ?_) (fun c35 => absurd (by show (-1 : Int32) < 0; decide) c35)
      exact hX' _ _
    | some g =>
      have hg14 := pg_sign_lt hg
      have hbb := pg_bb g
      have eb := nI_toInt (n := pg_bind g) (by omega)
      have egi := nI_toInt (n := g) (by omega)
      have hl := pg_sgl hg
      have hso : pg_so (some g) = nI g := rfl
      rw [hso]
      refine wq_l 30 d98_28 rfl rfl rfl rfl ?_
      refine wq_b 112 33 d98_30 rfl (by decide) rfl (fun c30 => absurd c30 ((by simp only [i_lt, i_le, i_eq, ne_eq, Int32.reduceToInt, b2_0, b2_1, decide_eq_true_eq, decide_eq_false_iff_not, Bool.not_eq_true, Bool.not_eq_false] at * <;> omega))) (fun c30 => ?_)
      refine wq_l 35 d98_33 rfl rfl rfl rfl ?_
      refine wq_b 112 38 d98_35 rfl (by decide) rfl (fun c35 => absurd c35 (by rw [i_lt, egi]; show ¬ (g : Int) < 0; omega)) (fun c35 => ?_)
      refine wq_l 40 d98_38 rfl rfl rfl rfl ?_
      refine wq_st 43 d98_40 rfl rfl ?_
      refine wq_sn 44 d98_43 rfl (v := 14) rfl rfl ?_
      refine wq_b 112 47 d98_44 rfl (by decide) rfl (fun c44 => absurd c44 (by rw [i_le, egi]; show ¬ (14 : Int) ≤ g; omega)) (fun c44 => ?_)
      refine wq_st 50 d98_47 rfl rfl ?_
      refine wq_l 52 d98_50 rfl rfl rfl rfl ?_
      refine wq_sl 53 d98_52 rfl rfl (vp_in_nI hg14 (by decide)) (v := nI (pg_bind g)) (by rw [nI_clamp (by omega)]; exact pg_bt g hg14) ?_
      refine wq_l 54 d98_53 rfl rfl rfl rfl ?_
      refine wq_b 112 57 d98_54 rfl (by decide) rfl (fun c54 => ?_) (fun c54 => ?_)
      · -- pc 112
        have hle : ¬ mm ≤ pg_bind g + 2 := by simp only [i_lt, i_le, i_eq, ne_eq, Int32.reduceToInt, b2_0, b2_1, decide_eq_true_eq, decide_eq_false_iff_not, Bool.not_eq_true, Bool.not_eq_false, hm2, eb] at c54; omega
        exact hX _ _ _ (by
          rw [show pg_more T (pg_X T f) mm (k + 1) c r = (c, r) from by unfold pg_more; rw [hg]; exact if_neg hle]
          exact hR)
      · -- pc 57
        have hle : mm ≤ pg_bind g + 2 := by simp only [i_lt, i_le, i_eq, ne_eq, Int32.reduceToInt, b2_0, b2_1, decide_eq_true_eq, decide_eq_false_iff_not, Bool.not_eq_true, Bool.not_eq_false, hm2, eb] at c54; omega
        refine wq_l 58 d98_57 rfl rfl rfl rfl ?_
        refine wq_gr (ci := 4) (j := 1) (q := 3) 61 d98_58 rfl rfl rfl rfl ?_
        refine wq_l 62 d98_61 rfl rfl rfl rfl ?_
        refine wq_k 64 35 d98_62 (by decide) rfl ?_
        refine wq_l 65 d98_64 rfl rfl rfl rfl ?_
        refine wq_gr (ci := 4) (j := 0) (q := 2) 68 d98_65 rfl rfl rfl rfl ?_
        refine wq_v 71 [] d98_68 rfl rfl m46 rfl rfl (Nat.le_of_ble_eq_true rfl) rfl (pk46 hK hR ?_)
        refine wq_l 73 d98_71 rfl rfl rfl rfl ?_
        refine wq_v 76 [_, _, _, _] d98_73 rfl rfl m61 rfl rfl (Nat.le_of_ble_eq_true rfl) rfl (pk61 (k := 35) hx hx0 hR (fun σ65 h65 => ?_))
        refine wq_l 77 d98_76 rfl rfl rfl rfl ?_
        refine wq_v 80 [] d98_77 rfl rfl m97 rfl rfl (Nat.le_of_ble_eq_true rfl) rfl (pk97 hK h65 (hl).1 (hl).2 (fun σ77 h77 => ?_))
        refine wq_l 81 d98_80 rfl rfl rfl rfl ?_
        refine wq_st 84 d98_81 rfl rfl ?_
        refine wq_l 86 d98_84 rfl rfl rfl rfl ?_
        refine wq_sl 87 d98_86 rfl rfl (vp_in_nI hg14 (by decide)) (v := nI (pg_bind g)) (by rw [nI_clamp (by omega)]; exact pg_bt g hg14) ?_
        refine wq_k 88 1 d98_87 (by decide) rfl ?_
        refine wq_a 89 d98_88 rfl rfl ?_
        rw [show nI (pg_bind g) + 1 = nI (pg_bind g + 3) - 2 from by rw [show (1 : Int32) = nI 1 from rfl, nI_add, show (2 : Int32) = nI 2 from rfl, pk_sub (by omega)]; congr 1]
        refine wq_v 92 [_] d98_89 rfl rfl m98 rfl rfl (Nat.le_of_ble_eq_true rfl) rfl (ih.2 _ (pg_bind g + 3) _ (by omega) (by omega) (by omega) (fun z => by obtain ⟨o1, _, o3⟩ := pg_lopn z; have := hf hl.1; rw [o3]; simp only; omega) _ _ _ _ h77 (fun σ89 h89 => ?_))
        have hxc : L.length < 16386 → x = nI L.length := fun z => hx (by omega)
        refine wq_l 93 d98_92 rfl rfl rfl rfl ?_
        refine wq_gr (ci := 4) (j := 1) (q := 3) 96 d98_93 rfl rfl rfl rfl ?_
        refine wq_l 97 d98_96 rfl rfl rfl rfl ?_
        refine wq_v 100 [_] d98_97 rfl rfl m59 rfl rfl (Nat.le_of_ble_eq_true rfl) rfl (pk59 hxc h89 (fun σ97 h97 => ?_))
        refine wq_l 101 d98_100 rfl rfl rfl rfl ?_
        refine wq_v 104 [] d98_101 rfl rfl m102 rfl rfl (Nat.le_of_ble_eq_true rfl) rfl (pp102 hK h97 ?_)
        refine wq_s 106 d98_104 rfl rfl (Nat.le_of_ble_eq_true rfl) rfl rfl ?_
        refine wq_i 109 d98_106 rfl rfl rfl ?_
        refine wq_g 28 d98_109 (by decide) ?_
        rw [show nI (k + 1) + Int32.ofInt (-1) = nI k from nI_m1 k]
        refine ihk _ _ _ (by omega) (fun z => ?_) h97 (fun σ' y z h' => hX σ' y z ?_)
        · have o1 := pg_oX T f (pg_bind g + 3) (by omega) _ z
          have o2 := (pg_lopn (pg_bk (pg_dX T f (pg_bind g + 3)) z)).2.2
          have o3 : (pg_opn c).2.2 = c.2.2 + 1 := by rw [o2]
          have := hf hl.1
          omega
        · rw [pg_more_s hg hle]
          exact h'
theorem pe98 {d : Nat} {T : pg_T} {n : Nat} {σ0 : pm_S} {c : pg_C} {f mm : Nat} (hK : pc_K T n σ0) (hD : 3 * f + 8 ≤ d + 5) (ih : pe_S T n σ0 f) (hm : 1 ≤ mm ∧ mm ≤ 9) (hH : pg_live T c → 2 * (60 - c.2.2) + 1 ≤ f) : pe_E T n σ0 (d + 6) (nI mm - 2) (pg_expr T (pg_X T f) mm) c := by
  intro σ l s Q hR hQ
  have hm2 := nI2 hm.2
  have hop := pc_op hR
  refine wq_m m98 (Nat.le_of_ble_eq_true rfl) (by decide) rfl ?_
  refine wq_l 1 d98_0 rfl rfl rfl rfl ?_
  refine wq_gi (ci := 4) (j := 2) 4 d98_1 rfl rfl rfl rfl ?_
  refine wq_s 5 d98_4 rfl rfl (Nat.le_of_ble_eq_true rfl) rfl rfl ?_
  refine wq_l 6 d98_5 rfl rfl rfl rfl ?_
  refine wq_gr (ci := 4) (j := 1) (q := 3) 9 d98_6 rfl rfl rfl rfl ?_
  refine wq_v 12 [] d98_9 rfl rfl m60 rfl rfl (Nat.le_of_ble_eq_true rfl) rfl (pk60 hR (fun x hx hx0 => ?_))
  refine wq_s 13 d98_12 rfl rfl (Nat.le_of_ble_eq_true rfl) rfl rfl ?_
  refine wq_l 14 d98_13 rfl rfl rfl rfl ?_
  refine wq_v 17 [] d98_14 rfl rfl m99 rfl rfl (Nat.le_of_ble_eq_true rfl) rfl (ih.1 _ _ (by omega) hH _ _ _ _ (pc_rb hR) (fun σ14 h14 => ?_))
  refine wq_l 18 d98_17 rfl rfl rfl rfl ?_
  refine wq_v 21 [] d98_18 rfl rfl m102 rfl rfl (Nat.le_of_ble_eq_true rfl) rfl (pp102 hK h14 ?_)
  refine wq_s 23 d98_21 rfl rfl (Nat.le_of_ble_eq_true rfl) rfl rfl ?_
  refine wq_k 26 8192 d98_23 (by decide) rfl ?_
  refine wq_s 28 d98_26 rfl rfl (Nat.le_of_ble_eq_true rfl) rfl rfl ?_
  refine pl98 (mm := mm) hK hD ih hm hx hx0 pg_M _ _ _ (Nat.le_refl _) (fun z => ?_) (pc_e h14 rfl (by rw [List.nil_append])) (fun σ2 y z h2 => ?_)
  · have o1 := pg_oX T f 0 (by decide) _ z
    have := hH (pg_bk (pg_dX T f 0) z)
    omega
  refine wq_l 113 d98_112 rfl rfl rfl rfl ?_
  refine wq_k 114 (-1) d98_113 (by decide) rfl ?_
  refine wq_b 122 117 d98_114 rfl (by decide) rfl (fun c114 => ?_) (fun c114 => ?_)
  · -- pc 122
    refine wq_rv d98_122 ?_
    first
      | (have h1 : mm = 1 := by simp only [i_lt, i_le, i_eq, ne_eq, Int32.reduceToInt, b2_0, b2_1, decide_eq_true_eq, decide_eq_false_iff_not, Bool.not_eq_true, Bool.not_eq_false, hm2] at c114; omega
         exact hQ _ (pc_e (pc_sop (o := c.2.2) h2 (fun z => hop (pg_bk (pg_dX T f 0) (pg_bkmore z)))) (by simp only [pg_expr, pg_rst, h1, if_true]; done) (by simp only [pg_expr, pg_rst, List.append_assoc, h1]; done)))
      | (have h1 : ¬ mm = 1 := by simp only [i_lt, i_le, i_eq, ne_eq, Int32.reduceToInt, b2_0, b2_1, decide_eq_true_eq, decide_eq_false_iff_not, Bool.not_eq_true, Bool.not_eq_false, hm2] at c114; omega
         exact hQ _ (pc_e h2 (by simp only [pg_expr, pg_rst, if_neg h1]; done) (by simp only [pg_expr, pg_rst, List.append_assoc]; done)))
  · -- pc 117
    refine wq_l 118 d98_117 rfl rfl rfl rfl ?_
    refine wq_l 119 d98_118 rfl rfl rfl rfl ?_
    refine wq_pf (ci := 4) (j := 2) 122 d98_119 rfl rfl rfl ⟨rfl, rfl⟩ rfl ?_
    refine wq_rv d98_122 ?_
    first
      | (have h1 : mm = 1 := by simp only [i_lt, i_le, i_eq, ne_eq, Int32.reduceToInt, b2_0, b2_1, decide_eq_true_eq, decide_eq_false_iff_not, Bool.not_eq_true, Bool.not_eq_false, hm2] at c114; omega
         exact hQ _ (pc_e (pc_sop (o := c.2.2) h2 (fun z => hop (pg_bk (pg_dX T f 0) (pg_bkmore z)))) (by simp only [pg_expr, pg_rst, h1, if_true]; done) (by simp only [pg_expr, pg_rst, List.append_assoc, h1]; done)))
      | (have h1 : ¬ mm = 1 := by simp only [i_lt, i_le, i_eq, ne_eq, Int32.reduceToInt, b2_0, b2_1, decide_eq_true_eq, decide_eq_false_iff_not, Bool.not_eq_true, Bool.not_eq_false, hm2] at c114; omega
         exact hQ _ (pc_e h2 (by simp only [pg_expr, pg_rst, if_neg h1]; done) (by simp only [pg_expr, pg_rst, List.append_assoc]; done)))
theorem pg_nl {T : pg_T} {c : pg_C} (h : pg_dead T c) : ¬ pg_live T c := fun z => pg_ld.mpr z h
/-- no token can come: fuel or not -/
theorem pe_0 {T : pg_T} {n : Nat} {σ0 : pm_S} (hK : pc_K T n σ0) : pe_S T n σ0 0 := by
  have hO : ∀ D c, 6 ≤ D → ¬ pg_live T c → pe_O T n σ0 D (pg_tok pg_stop) c := by
    intro D c hD hc σ l s Q hR hQ
    obtain ⟨d, rfl⟩ : ∃ d, D = d + 6 := ⟨D - 6, by omega⟩
    have hd : pg_dead T c := Classical.not_not.mp (fun z => hc (pg_ld.mp z))
    have hkd := pg_kd hd
    have ekk := nI_toInt (n := pg_k T c) (by omega)
    refine wq_m m99 (Nat.le_of_ble_eq_true rfl) (by decide) rfl ?_
    refine wq_l 1 d99_0 rfl rfl rfl rfl ?_
    refine wq_gr (ci := 4) (j := 0) (q := 2) 4 d99_1 rfl rfl rfl rfl ?_
    refine wq_v 7 [] d99_4 rfl rfl m45 rfl rfl (Nat.le_of_ble_eq_true rfl) rfl (pk45 hR ?_)
    refine wq_lsw [(34, 72), (35, 135), (36, 135), (41, 173), (42, 135), (52, 142), (61, 72)] 219 d99_7 (by decide) (List.forall_mem_cons.mpr ⟨fun e7 => ?_, List.forall_mem_cons.mpr ⟨fun e7 => ?_, List.forall_mem_cons.mpr ⟨fun e7 => ?_, List.forall_mem_cons.mpr ⟨fun e7 => ?_, List.forall_mem_cons.mpr ⟨fun e7 => ?_, List.forall_mem_cons.mpr ⟨fun e7 => ?_, List.forall_mem_cons.mpr ⟨fun e7 => ?_, fun _ h => absurd h List.not_mem_nil⟩⟩⟩⟩⟩⟩⟩) (fun e7 => ?_)
    · -- case 34
      exact absurd e7 (by simp only [i_lt, i_le, i_eq, ne_eq, Int32.reduceToInt, b2_0, b2_1, decide_eq_true_eq, decide_eq_false_iff_not, Bool.not_eq_true, Bool.not_eq_false, ekk]; omega)
    · -- case 35
      exact absurd e7 (by simp only [i_lt, i_le, i_eq, ne_eq, Int32.reduceToInt, b2_0, b2_1, decide_eq_true_eq, decide_eq_false_iff_not, Bool.not_eq_true, Bool.not_eq_false, ekk]; omega)
    · -- case 36
      exact absurd e7 (by simp only [i_lt, i_le, i_eq, ne_eq, Int32.reduceToInt, b2_0, b2_1, decide_eq_true_eq, decide_eq_false_iff_not, Bool.not_eq_true, Bool.not_eq_false, ekk]; omega)
    · -- case 41
      exact absurd e7 (by simp only [i_lt, i_le, i_eq, ne_eq, Int32.reduceToInt, b2_0, b2_1, decide_eq_true_eq, decide_eq_false_iff_not, Bool.not_eq_true, Bool.not_eq_false, ekk]; omega)
    · -- case 42
      exact absurd e7 (by simp only [i_lt, i_le, i_eq, ne_eq, Int32.reduceToInt, b2_0, b2_1, decide_eq_true_eq, decide_eq_false_iff_not, Bool.not_eq_true, Bool.not_eq_false, ekk]; omega)
    · -- case 52
      exact absurd e7 (by simp only [i_lt, i_le, i_eq, ne_eq, Int32.reduceToInt, b2_0, b2_1, decide_eq_true_eq, decide_eq_false_iff_not, Bool.not_eq_true, Bool.not_eq_false, ekk]; omega)
    · -- case 61
      exact absurd e7 (by simp only [i_lt, i_le, i_eq, ne_eq, Int32.reduceToInt, b2_0, b2_1, decide_eq_true_eq, decide_eq_false_iff_not, Bool.not_eq_true, Bool.not_eq_false, ekk]; omega)
    · -- default
      have w7_34 := e7 (34, 72) (by decide)
      have w7_35 := e7 (35, 135) (by decide)
      have w7_36 := e7 (36, 135) (by decide)
      have w7_41 := e7 (41, 173) (by decide)
      have w7_42 := e7 (42, 135) (by decide)
      have w7_52 := e7 (52, 142) (by decide)
      have w7_61 := e7 (61, 72) (by decide)
      refine wq_l 220 d99_219 rfl rfl rfl rfl ?_
      refine wq_gr (ci := 4) (j := 0) (q := 2) 223 d99_220 rfl rfl rfl rfl ?_
      refine wq_v 226 [] d99_223 rfl rfl m50 rfl rfl (Nat.le_of_ble_eq_true rfl) rfl (pk50 hR (fun σ223 h223 => ?_))
      refine wq_rv d99_226 ?_
      exact hQ _ (pc_e h223 rfl (by simp only [pg_tok, List.append_nil]; done))
  refine ⟨fun D c hD hH => hO D c (by omega) (fun z => absurd (hH z) (by omega)), fun D mm c hD h1 h9 hH => ?_⟩
  have hc : ¬ pg_live T c := fun z => absurd (hH z) (by omega)
  intro σ l s Q hR hQ
  obtain ⟨d, rfl⟩ : ∃ d, D = d + 7 := ⟨D - 7, by omega⟩
  have hd : pg_dead T (pg_stop c) := pg_stopd
  have hsn : pg_sign (pg_k T (pg_stop c)) = none := pg_gsign hd
  have hm2 := nI2 h9
  refine wq_m m98 (Nat.le_of_ble_eq_true rfl) (by decide) rfl ?_
  refine wq_l 1 d98_0 rfl rfl rfl rfl ?_
  refine wq_gi (ci := 4) (j := 2) 4 d98_1 rfl rfl rfl rfl ?_
  refine wq_s 5 d98_4 rfl rfl (Nat.le_of_ble_eq_true rfl) rfl rfl ?_
  refine wq_l 6 d98_5 rfl rfl rfl rfl ?_
  refine wq_gr (ci := 4) (j := 1) (q := 3) 9 d98_6 rfl rfl rfl rfl ?_
  refine wq_v 12 [] d98_9 rfl rfl m60 rfl rfl (Nat.le_of_ble_eq_true rfl) rfl (pk60 hR (fun x hx hx0 => ?_))
  refine wq_s 13 d98_12 rfl rfl (Nat.le_of_ble_eq_true rfl) rfl rfl ?_
  refine wq_l 14 d98_13 rfl rfl rfl rfl ?_
  refine wq_v 17 [] d98_14 rfl rfl m99 rfl rfl (Nat.le_of_ble_eq_true rfl) rfl (hO _ c (by omega) hc _ _ _ _ hR (fun σ14 h14 => ?_))
  refine wq_l 18 d98_17 rfl rfl rfl rfl ?_
  refine wq_v 21 [] d98_18 rfl rfl m102 rfl rfl (Nat.le_of_ble_eq_true rfl) rfl (pp102 hK h14 ?_)
  rw [show (pg_tok pg_stop c).1 = pg_stop c from rfl, hsn]
  refine wq_s 23 d98_21 rfl rfl (Nat.le_of_ble_eq_true rfl) rfl rfl ?_
  refine wq_k 26 8192 d98_23 (by decide) rfl ?_
  refine wq_s 28 d98_26 rfl rfl (Nat.le_of_ble_eq_true rfl) rfl rfl ?_
  refine wq_l 30 d98_28 rfl rfl rfl rfl ?_
  refine wq_b 112 33 d98_30 rfl (by decide) rfl (fun c30 => absurd c30 (by decide)) (fun c30 => ?_)
  refine wq_l 35 d98_33 rfl rfl rfl rfl ?_
  refine wq_b 112 38 d98_35 rfl (by decide) rfl (fun c35 => ?_) (fun c35 => absurd (by show (-1 : Int32) < 0; decide) c35)
  refine wq_l 113 d98_112 rfl rfl rfl rfl ?_
  refine wq_k 114 (-1) d98_113 (by decide) rfl ?_
  refine wq_b 122 117 d98_114 rfl (by decide) rfl (fun c114 => ?_) (fun c114 => ?_)
  · -- pc 122
    refine wq_rv d98_122 ?_
    first
      | exact hQ _ (pc_e (pc_sop (o := (pg_stop c).2.2) h14 (fun z => absurd z (pg_nl hd))) rfl (by simp only [pg_X, pg_tok, List.append_nil]; done))
      | exact hQ _ (pc_e h14 rfl (by simp only [pg_X, pg_tok, List.append_nil]; done))
  · -- pc 117
    refine wq_l 118 d98_117 rfl rfl rfl rfl ?_
    refine wq_l 119 d98_118 rfl rfl rfl rfl ?_
    refine wq_pf (ci := 4) (j := 2) 122 d98_119 rfl rfl rfl ⟨rfl, rfl⟩ rfl ?_
    refine wq_rv d98_122 ?_
    first
      | exact hQ _ (pc_e (pc_sop (o := (pg_stop c).2.2) h14 (fun z => absurd z (pg_nl hd))) rfl (by simp only [pg_X, pg_tok, List.append_nil]; done))
      | exact hQ _ (pc_e h14 rfl (by simp only [pg_X, pg_tok, List.append_nil]; done))
theorem pe_all {T : pg_T} {n : Nat} {σ0 : pm_S} (hK : pc_K T n σ0) : ∀ f, pe_S T n σ0 f
  | 0 => pe_0 hK
  | f + 1 => by
    have ih := pe_all hK f
    refine ⟨fun D c hD hH => ?_, fun D mm c hD h1 h9 hH => ?_⟩
    · obtain ⟨d, rfl⟩ : ∃ d, D = d + 6 := ⟨D - 6, by omega⟩
      exact pe99 hK (by omega) ih hH
    · obtain ⟨d, rfl⟩ : ∃ d, D = d + 6 := ⟨D - 6, by omega⟩
      have := pe98 (c := c) (d := d) hK (by omega) ih ⟨h1, h9⟩ (fun z => by have := hH z; omega)
      rw [show pg_X T (f + 1) mm = pg_expr T (pg_X T f) mm from if_neg (by omega)]
      exact this
theorem pp98 {T : pg_T} {n : Nat} {σ0 : pm_S} {D : Nat} {c : pg_C} (hK : pc_K T n σ0) (hD : 608 ≤ D) : pe_E T n σ0 D (-1) (pg_E T) c := (pe_all hK 200).2 D 1 c (by omega) (by decide) (by decide) (fun _ => by omega)
