/-! RANGES, CHOICES -/
theorem pl107 {d : Nat} {T : pg_T} {n : Nat} {σ0 : pm_S} {l : List pg_N} {Q : Option Value → pm_S → Prop} (hK : pc_K T n σ0) : ∀ (k : Nat) (σ : pm_S) (c : pg_C) (s : List pg_N) (u : Value), k ≤ 8192 → pc_R T n σ0 σ c l s → (∀ σ' (y w : Int32) (u : Value), pc_R T n σ0 σ' (pg_sep T (pg_range T) k c).1 l (s ++ (pg_sep T (pg_range T) k c).2) → pm_WP pm_Y0 (pm_call pm_Y0 (d + 3)) 4 prog_6_method_19_code none Q 94 [.ref 4, .int w, .int y, u] [] σ') → pm_WP pm_Y0 (pm_call pm_Y0 (d + 3)) 4 prog_6_method_19_code none Q 6 [.ref 4, .int 1, .int (nI k), u] [] σ := by
  intro k
  induction k with
  | zero =>
    intro σ c s u hk hR hX
    refine wq_l 7 d107_6 rfl rfl rfl rfl ?_
    refine wq_b 94 10 d107_7 rfl (by decide) rfl (fun c7 => absurd c7 (by decide)) (fun c7 => ?_)
    refine wq_l 11 d107_10 rfl rfl rfl rfl ?_
    refine wq_b 94 14 d107_11 rfl (by decide) rfl (fun c11 => ?_) (fun c11 => absurd (by decide) c11)
    exact hX _ _ _ _ (pc_e hR rfl (by simp only [pg_sep, pg_nil, List.append_nil]; done))
  | succ k ih =>
    intro σ c s u hk hR hX
    have ek := nI_toInt (n := k + 1) (by omega)
    have K2 : ∀ σ2 (u : Int32), pc_R T n σ0 σ2 (pg_range T c).1 l (s ++ (pg_range T c).2) → pm_WP pm_Y0 (pm_call pm_Y0 (d + 3)) 4 prog_6_method_19_code none Q 67 [.ref 4, .int 1, .int (nI (k + 1)), .int u] [] σ2 := by
      intro σ2 u hR2
      refine wq_l 68 d107_67 rfl rfl rfl rfl ?_
      refine wq_gr (ci := 4) (j := 0) (q := 2) 71 d107_68 rfl rfl rfl rfl ?_
      refine wq_k 73 56 d107_71 (by decide) rfl ?_
      refine wq_v 76 [_] d107_73 rfl rfl m51 rfl rfl (Nat.le_of_ble_eq_true rfl) rfl (pk51 (k := 56) hK (by decide) hR2 ?_)
      refine wq_s 77 d107_76 rfl rfl (Nat.le_of_ble_eq_true rfl) rfl rfl ?_
      refine wq_l 78 d107_77 rfl rfl rfl rfl ?_
      refine wq_b 88 81 d107_78 rfl (by decide) rfl (fun c78 => ?_) (fun c78 => ?_)
      · -- pc 88
        have f78 := b2z c78
        refine wq_i 91 d107_88 rfl rfl rfl ?_
        refine wq_g 6 d107_91 (by decide) ?_
        rw [show nI (k + 1) + Int32.ofInt (-1) = nI k from nI_m1 k]
        rw [show b2 (pg_is T 56 (pg_range T c).1) = 0 from b2_f f78]
        refine wq_l 7 d107_6 rfl rfl rfl rfl ?_
        refine wq_b 94 10 d107_7 rfl (by decide) rfl (fun _ => ?_) (fun z => absurd rfl z)
        exact hX _ _ _ _ (pc_e hR2 (by simp only [pg_sep, pg_seq, pg_ite, pg_tok, pg_nil, if_true, if_false, Bool.false_eq_true, f78]; done) (by simp only [pg_sep, pg_seq, pg_ite, pg_tok, pg_nil, if_true, if_false, Bool.false_eq_true, f78, List.append_assoc, List.nil_append, List.append_nil, List.cons_append, List.singleton_append, List.length_append, List.length_cons, List.length_nil, List.length_singleton]; done))
      · -- pc 81
        have f78 := b2n c78
        refine wq_l 82 d107_81 rfl rfl rfl rfl ?_
        refine wq_gr (ci := 4) (j := 0) (q := 2) 85 d107_82 rfl rfl rfl rfl ?_
        refine wq_v 88 [] d107_85 rfl rfl m47 rfl rfl (Nat.le_of_ble_eq_true rfl) rfl (pk47 hK hR2 (pg_isl f78 (by decide)).1 (pg_isl f78 (by decide)).2 (fun σ85 h85 => ?_))
        refine wq_i 91 d107_88 rfl rfl rfl ?_
        refine wq_g 6 d107_91 (by decide) ?_
        rw [show nI (k + 1) + Int32.ofInt (-1) = nI k from nI_m1 k]
        rw [show b2 (pg_is T 56 (pg_range T c).1) = 1 from b2_t f78]
        exact ih _ _ _ _ (by omega) h85 (fun σ' y w u h' => hX σ' y w u (pc_e h' (by simp only [pg_sep, pg_seq, pg_ite, pg_tok, pg_nil, if_true, if_false, Bool.false_eq_true, f78]; done) (by simp only [pg_sep, pg_seq, pg_ite, pg_tok, pg_nil, if_true, if_false, Bool.false_eq_true, f78, List.append_assoc, List.nil_append, List.append_nil, List.cons_append, List.singleton_append, List.length_append, List.length_cons, List.length_nil, List.length_singleton]; done)))
    refine wq_l 7 d107_6 rfl rfl rfl rfl ?_
    refine wq_b 94 10 d107_7 rfl (by decide) rfl (fun c7 => absurd c7 (by decide)) (fun c7 => ?_)
    refine wq_l 11 d107_10 rfl rfl rfl rfl ?_
    refine wq_b 94 14 d107_11 rfl (by decide) rfl (fun c11 => absurd c11 ((by simp only [i_lt, i_le, i_eq, ne_eq, Int32.reduceToInt, b2_0, b2_1, decide_eq_true_eq, decide_eq_false_iff_not, Bool.not_eq_true, Bool.not_eq_false] at * <;> omega))) (fun c11 => ?_)
    refine wq_l 15 d107_14 rfl rfl rfl rfl ?_
    refine wq_gr (ci := 4) (j := 1) (q := 3) 18 d107_15 rfl rfl rfl rfl ?_
    refine wq_k 20 18 d107_18 (by decide) rfl ?_
    refine wq_l 21 d107_20 rfl rfl rfl rfl ?_
    refine wq_gr (ci := 4) (j := 0) (q := 2) 24 d107_21 rfl rfl rfl rfl ?_
    refine wq_v 27 [] d107_24 rfl rfl m46 rfl rfl (Nat.le_of_ble_eq_true rfl) rfl (pk46 hK hR ?_)
    refine wq_k 28 0 d107_27 (by decide) rfl ?_
    refine wq_v 31 [_, _, _] d107_28 rfl rfl m57 rfl rfl (Nat.le_of_ble_eq_true rfl) rfl (pk57o (k := 18) hR (fun σ28 x28 hx28 h28 => ?_))
    refine wq_s 32 d107_31 rfl rfl (Nat.le_of_ble_eq_true rfl) rfl rfl ?_
    refine wq_l 33 d107_32 rfl rfl rfl rfl ?_
    refine wq_v 36 [] d107_33 rfl rfl m86 rfl rfl (Nat.le_of_ble_eq_true rfl) rfl (pp86 hK h28 (fun σ33 h33 => ?_))
    refine wq_l 37 d107_36 rfl rfl rfl rfl ?_
    refine wq_gr (ci := 4) (j := 0) (q := 2) 40 d107_37 rfl rfl rfl rfl ?_
    refine wq_k 42 48 d107_40 (by decide) rfl ?_
    refine wq_v 45 [_] d107_42 rfl rfl m51 rfl rfl (Nat.le_of_ble_eq_true rfl) rfl (pk51 (k := 48) hK (by decide) h33 ?_)
    refine wq_b 59 48 d107_45 rfl (by decide) rfl (fun c45 => ?_) (fun c45 => ?_)
    · -- pc 59
      have f45 := b2z c45
      refine wq_l 60 d107_59 rfl rfl rfl rfl ?_
      refine wq_gr (ci := 4) (j := 1) (q := 3) 63 d107_60 rfl rfl rfl rfl ?_
      refine wq_l 64 d107_63 rfl rfl rfl rfl ?_
      refine wq_v 67 [_] d107_64 rfl rfl m59 rfl rfl (Nat.le_of_ble_eq_true rfl) rfl (pk59 hx28 h33 (fun σ64 h64 => ?_))
      exact K2 _ _ (pc_e h64 (by simp only [pg_range, pg_node, pg_seq, pg_ite, pg_tok, pg_nil, if_true, if_false, Bool.false_eq_true, f45]; done) (by simp only [pg_range, pg_node, pg_seq, pg_ite, pg_tok, pg_nil, List.append_assoc, List.nil_append, List.append_nil, List.cons_append, List.singleton_append, List.length_append, List.length_cons, List.length_nil, List.length_singleton, if_true, if_false, Bool.false_eq_true, f45]; done))
    · -- pc 48
      have f45 := b2n c45
      refine wq_l 49 d107_48 rfl rfl rfl rfl ?_
      refine wq_gr (ci := 4) (j := 0) (q := 2) 52 d107_49 rfl rfl rfl rfl ?_
      refine wq_v 55 [] d107_52 rfl rfl m47 rfl rfl (Nat.le_of_ble_eq_true rfl) rfl (pk47 hK h33 (pg_isl f45 (by decide)).1 (pg_isl f45 (by decide)).2 (fun σ52 h52 => ?_))
      refine wq_l 56 d107_55 rfl rfl rfl rfl ?_
      refine wq_v 59 [] d107_56 rfl rfl m86 rfl rfl (Nat.le_of_ble_eq_true rfl) rfl (pp86 hK h52 (fun σ56 h56 => ?_))
      refine wq_l 60 d107_59 rfl rfl rfl rfl ?_
      refine wq_gr (ci := 4) (j := 1) (q := 3) 63 d107_60 rfl rfl rfl rfl ?_
      refine wq_l 64 d107_63 rfl rfl rfl rfl ?_
      refine wq_v 67 [_] d107_64 rfl rfl m59 rfl rfl (Nat.le_of_ble_eq_true rfl) rfl (pk59 hx28 h56 (fun σ64 h64 => ?_))
      exact K2 _ _ (pc_e h64 (by simp only [pg_range, pg_node, pg_seq, pg_ite, pg_tok, pg_nil, if_true, if_false, Bool.false_eq_true, f45]; done) (by simp only [pg_range, pg_node, pg_seq, pg_ite, pg_tok, pg_nil, List.append_assoc, List.nil_append, List.append_nil, List.cons_append, List.singleton_append, List.length_append, List.length_cons, List.length_nil, List.length_singleton, if_true, if_false, Bool.false_eq_true, f45]; done))
theorem pp107 {d : Nat} {T : pg_T} {n : Nat} {σ0 σ : pm_S} {c : pg_C} {l s : List pg_N} {Q : Option Value → pm_S → Prop} (hK : pc_K T n σ0) (hR : pc_R T n σ0 σ c l s) (hQ : ∀ σ', pc_R T n σ0 σ' (pg_seq (pg_sep T (pg_range T) pg_M) (pg_tok (pg_exp T 58)) c).1 l (s ++ (pg_seq (pg_sep T (pg_range T) pg_M) (pg_tok (pg_exp T 58)) c).2) → Q none σ') : pm_call pm_Y0 (d + 4) 107 [.ref 4] σ Q := by
  refine wq_m m107 (Nat.le_of_ble_eq_true rfl) (by decide) rfl ?_
  refine wq_k 1 1 d107_0 (by decide) rfl ?_
  refine wq_s 2 d107_1 rfl rfl (Nat.le_of_ble_eq_true rfl) rfl rfl ?_
  refine wq_k 5 8192 d107_2 (by decide) rfl ?_
  refine wq_s 6 d107_5 rfl rfl (Nat.le_of_ble_eq_true rfl) rfl rfl ?_
  refine pl107 hK pg_M _ _ _ _ (Nat.le_refl _) hR (fun σl yl wl ul hl => ?_)
  refine wq_l 95 d107_94 rfl rfl rfl rfl ?_
  refine wq_gr (ci := 4) (j := 0) (q := 2) 98 d107_95 rfl rfl rfl rfl ?_
  refine wq_k 100 58 d107_98 (by decide) rfl ?_
  refine wq_v 103 [_] d107_100 rfl rfl m49 rfl rfl (Nat.le_of_ble_eq_true rfl) rfl (pk49 (k := 58) hK (by decide) hl (fun σ100 h100 => ?_))
  refine wq_rv d107_103 ?_
  exact hQ _ (pc_e h100 (by first | (simp only [pg_seq, pg_tok, if_true, if_false, Bool.false_eq_true]; done) | rfl) (by simp only [pg_seq, pg_tok, List.append_assoc, List.nil_append, List.append_nil, List.cons_append, List.singleton_append, List.length_append, List.length_cons, List.length_nil, List.length_singleton, if_true, if_false, Bool.false_eq_true]; done))
/-! IF -/
def pg_i114 (T : pg_T) : pg_P := pg_tok (fun c => pg_dec (pg_exp T 20 c))
def pg_i91 (T : pg_T) (B : pg_P) : pg_P := pg_seq (pg_else T B) (pg_i114 T)
theorem pq104_114 {d : Nat} {T : pg_T} {n : Nat} {σ0 σ : pm_S} {c : pg_C} {L r : List pg_N} {k0 p0 z0 : Nat} {v0 x : Int32} {Q : Option Value → pm_S → Prop} {B : pg_P} {o : Nat} {y : Int32} (hK : pc_K T n σ0) (ho : 1 ≤ o) (hd : 620 ≤ d) (hO : pg_O T B) (hDB : pg_D T B) (hB : ∀ c', pg_lb T o c' → pb_B T n σ0 (d + 5) B c') (hb : pg_lb T o c) (hx : L.length < 16386 → x = nI L.length) (hR : pc_R T n σ0 σ c (L ++ [(k0, p0, v0, z0)]) r) (hQ : ∀ σ', pc_R T n σ0 σ' (pg_i114 T c).1 L ((k0, p0, v0, (r ++ (pg_i114 T c).2).length + 1) :: (r ++ (pg_i114 T c).2)) → Q none σ') : pm_WP pm_Y0 (pm_call pm_Y0 (d + 5)) 4 prog_6_method_17_code none Q 114 [.ref 4, .int x, .int y] [] σ := by
  refine wq_l 115 d104_114 rfl rfl rfl rfl ?_
  refine wq_gr (ci := 4) (j := 0) (q := 2) 118 d104_115 rfl rfl rfl rfl ?_
  refine wq_k 120 20 d104_118 (by decide) rfl ?_
  refine wq_v 123 [_] d104_120 rfl rfl m49 rfl rfl (Nat.le_of_ble_eq_true rfl) rfl (pk49 (k := 20) hK (by decide) hR (fun σ120 h120 => ?_))
  refine wq_l 124 d104_123 rfl rfl rfl rfl ?_
  refine wq_a 125 d104_124 rfl rfl ?_
  refine wq_gi (ci := 4) (j := 2) 128 d104_125 rfl rfl rfl rfl ?_
  refine wq_k 129 1 d104_128 (by decide) rfl ?_
  refine wq_a 130 d104_129 rfl rfl ?_
  refine wq_pf (ci := 4) (j := 2) 133 d104_130 rfl rfl rfl ⟨rfl, rfl⟩ rfl ?_
  have hd130 := pc_dec h120 (fun z => Nat.le_trans ho ((lb_x (by decide) hb) z))
  refine wq_l 134 d104_133 rfl rfl rfl rfl ?_
  refine wq_gr (ci := 4) (j := 1) (q := 3) 137 d104_134 rfl rfl rfl rfl ?_
  refine wq_l 138 d104_137 rfl rfl rfl rfl ?_
  refine wq_v 141 [_] d104_138 rfl rfl m59 rfl rfl (Nat.le_of_ble_eq_true rfl) rfl (pk59 hx hd130 (fun σ138 h138 => ?_))
  refine wq_rv d104_141 ?_
  exact hQ _ (pc_e h138 (by simp only [pg_i114, pg_tok, if_true, if_false, Bool.false_eq_true]; done) (by simp only [pg_i114, pg_tok, List.append_assoc, List.nil_append, List.append_nil, List.cons_append, List.singleton_append, List.length_append, List.length_cons, List.length_nil, List.length_singleton, if_true, if_false, Bool.false_eq_true]; done))
theorem pq104_91 {d : Nat} {T : pg_T} {n : Nat} {σ0 σ : pm_S} {c : pg_C} {L r : List pg_N} {k0 p0 z0 : Nat} {v0 x : Int32} {Q : Option Value → pm_S → Prop} {B : pg_P} {o : Nat} {y : Int32} (hK : pc_K T n σ0) (ho : 1 ≤ o) (hd : 620 ≤ d) (hO : pg_O T B) (hDB : pg_D T B) (hB : ∀ c', pg_lb T o c' → pb_B T n σ0 (d + 5) B c') (hb : pg_lb T o c) (hx : L.length < 16386 → x = nI L.length) (hR : pc_R T n σ0 σ c (L ++ [(k0, p0, v0, z0)]) r) (hQ : ∀ σ', pc_R T n σ0 σ' (pg_i91 T B c).1 L ((k0, p0, v0, (r ++ (pg_i91 T B c).2).length + 1) :: (r ++ (pg_i91 T B c).2)) → Q none σ') : pm_WP pm_Y0 (pm_call pm_Y0 (d + 5)) 4 prog_6_method_17_code none Q 91 [.ref 4, .int x, .int y] [] σ := by
  refine wq_l 92 d104_91 rfl rfl rfl rfl ?_
  refine wq_gr (ci := 4) (j := 0) (q := 2) 95 d104_92 rfl rfl rfl rfl ?_
  refine wq_k 97 19 d104_95 (by decide) rfl ?_
  refine wq_v 100 [_] d104_97 rfl rfl m51 rfl rfl (Nat.le_of_ble_eq_true rfl) rfl (pk51 (k := 19) hK (by decide) hR ?_)
  refine wq_b 114 103 d104_100 rfl (by decide) rfl (fun c100 => ?_) (fun c100 => ?_)
  · -- pc 114
    have f100 := b2z c100
    exact pq104_114 hK ho hd hO hDB hB hb hx hR (fun σ' h' => hQ σ' (pc_e h' (by simp only [pg_i91, pg_else, pg_ite, pg_seq, pg_tok, pg_nil, if_true, if_false, Bool.false_eq_true, f100]; done) (by simp only [pg_i91, pg_else, pg_ite, pg_seq, pg_tok, pg_nil, List.append_assoc, List.nil_append, List.append_nil, List.cons_append, List.singleton_append, List.length_append, List.length_cons, List.length_nil, List.length_singleton, if_true, if_false, Bool.false_eq_true, f100]; done)))
  · -- pc 103
    have f100 := b2n c100
    refine wq_l 104 d104_103 rfl rfl rfl rfl ?_
    refine wq_gr (ci := 4) (j := 0) (q := 2) 107 d104_104 rfl rfl rfl rfl ?_
    refine wq_v 110 [] d104_107 rfl rfl m47 rfl rfl (Nat.le_of_ble_eq_true rfl) rfl (pk47 hK hR (pg_isl f100 (by decide)).1 (pg_isl f100 (by decide)).2 (fun σ107 h107 => ?_))
    refine wq_l 111 d104_110 rfl rfl rfl rfl ?_
    refine wq_v 114 [] d104_111 rfl rfl m94 rfl rfl (Nat.le_of_ble_eq_true rfl) rfl (hB _ (lb_s (pg_isl f100 (by decide)) hb) _ _ _ _ h107 (fun σ111 h111 => ?_))
    exact pq104_114 hK ho hd hO hDB hB (lb_a (pg_obody hO) (pg_dbody hDB) (lb_s (pg_isl f100 (by decide)) hb)) hx h111 (fun σ' h' => hQ σ' (pc_e h' (by simp only [pg_i91, pg_else, pg_ite, pg_seq, pg_tok, pg_nil, if_true, if_false, Bool.false_eq_true, f100]; done) (by simp only [pg_i91, pg_else, pg_ite, pg_seq, pg_tok, pg_nil, List.append_assoc, List.nil_append, List.append_nil, List.cons_append, List.singleton_append, List.length_append, List.length_cons, List.length_nil, List.length_singleton, if_true, if_false, Bool.false_eq_true, f100]; done)))
theorem pl104 {d : Nat} {T : pg_T} {n : Nat} {σ0 : pm_S} {l : List pg_N} {Q : Option Value → pm_S → Prop} {x : Int32} {B : pg_P} {o : Nat}  (hK : pc_K T n σ0) (hd : 620 ≤ d) (hO : pg_O T B) (hDB : pg_D T B) (hB : ∀ c', pg_lb T o c' → pb_B T n σ0 (d + 5) B c') : ∀ (k : Nat) (σ : pm_S) (c : pg_C) (s : List pg_N), k ≤ 8192 → pg_lb T o c → pc_R T n σ0 σ c l s → (∀ σ' (y : Int32), pc_R T n σ0 σ' (pg_whl (pg_is T 18) (pg_seq (pg_tok pg_stp) (pg_cond T B)) k c).1 l (s ++ (pg_whl (pg_is T 18) (pg_seq (pg_tok pg_stp) (pg_cond T B)) k c).2) → pm_WP pm_Y0 (pm_call pm_Y0 (d + 5)) 4 prog_6_method_17_code none Q 91 [.ref 4, .int x, .int y] [] σ') → pm_WP pm_Y0 (pm_call pm_Y0 (d + 5)) 4 prog_6_method_17_code none Q 44 [.ref 4, .int x, .int (nI k)] [] σ := by
  intro k
  induction k with
  | zero =>
    intro σ c s hk h0 hR hX
    refine wq_l 45 d104_44 rfl rfl rfl rfl ?_
    refine wq_b 91 48 d104_45 rfl (by decide) rfl (fun c45 => ?_) (fun c45 => absurd (by decide) c45)
    exact hX _ _ (pc_e hR rfl (by simp only [pg_whl, pg_nil, List.append_assoc, List.nil_append, List.append_nil, List.cons_append, List.singleton_append, List.length_append, List.length_cons, List.length_nil, List.length_singleton]))
  | succ k ih =>
    intro σ c s hk h0 hR hX
    have ek := nI_toInt (n := k + 1) (by omega)
    refine wq_l 45 d104_44 rfl rfl rfl rfl ?_
    refine wq_b 91 48 d104_45 rfl (by decide) rfl (fun c45 => absurd c45 ((by simp only [i_lt, i_le, i_eq, ne_eq, Int32.reduceToInt, b2_0, b2_1, decide_eq_true_eq, decide_eq_false_iff_not, Bool.not_eq_true, Bool.not_eq_false] at * <;> omega))) (fun c45 => ?_)
    refine wq_l 49 d104_48 rfl rfl rfl rfl ?_
    refine wq_gr (ci := 4) (j := 0) (q := 2) 52 d104_49 rfl rfl rfl rfl ?_
    refine wq_k 54 18 d104_52 (by decide) rfl ?_
    refine wq_v 57 [_] d104_54 rfl rfl m51 rfl rfl (Nat.le_of_ble_eq_true rfl) rfl (pk51 (k := 18) hK (by decide) hR ?_)
    refine wq_b 91 60 d104_57 rfl (by decide) rfl (fun c57 => ?_) (fun c57 => ?_)
    · -- pc 91
      have f57 := b2z c57
      exact hX _ _ (pc_e hR (by simp only [pg_whl, pg_ite, pg_nil, if_false, Bool.false_eq_true, f57]; done) (by simp only [pg_whl, pg_ite, pg_nil, if_false, Bool.false_eq_true, f57, List.append_assoc, List.nil_append, List.append_nil, List.cons_append, List.singleton_append, List.length_append, List.length_cons, List.length_nil, List.length_singleton]; done))
    · -- pc 60
      have f57 := b2n c57
      refine wq_l 61 d104_60 rfl rfl rfl rfl ?_
      refine wq_gr (ci := 4) (j := 0) (q := 2) 64 d104_61 rfl rfl rfl rfl ?_
      refine wq_v 67 [] d104_64 rfl rfl m47 rfl rfl (Nat.le_of_ble_eq_true rfl) rfl (pk47 hK hR (pg_isl f57 (by decide)).1 (pg_isl f57 (by decide)).2 (fun σ64 h64 => ?_))
      refine wq_l 68 d104_67 rfl rfl rfl rfl ?_
      refine wq_k 69 (-1) d104_68 (by decide) rfl ?_
      refine wq_v 72 [_] d104_69 rfl rfl m98 rfl rfl (Nat.le_of_ble_eq_true rfl) rfl (pp98 hK (by omega) _ _ _ _ h64 (fun σ69 h69 => ?_))
      refine wq_l 73 d104_72 rfl rfl rfl rfl ?_
      refine wq_gr (ci := 4) (j := 0) (q := 2) 76 d104_73 rfl rfl rfl rfl ?_
      refine wq_k 78 17 d104_76 (by decide) rfl ?_
      refine wq_v 81 [_] d104_78 rfl rfl m49 rfl rfl (Nat.le_of_ble_eq_true rfl) rfl (pk49 (k := 17) hK (by decide) h69 (fun σ78 h78 => ?_))
      refine wq_l 82 d104_81 rfl rfl rfl rfl ?_
      refine wq_v 85 [] d104_82 rfl rfl m94 rfl rfl (Nat.le_of_ble_eq_true rfl) rfl (hB _ (lb_x (by decide) (lb_a (pg_oE T) (pg_dE T) (lb_s (pg_isl f57 (by decide)) h0))) _ _ _ _ h78 (fun σ82 h82 => ?_))
      refine wq_i 88 d104_85 rfl rfl rfl ?_
      refine wq_g 44 d104_88 (by decide) ?_
      rw [show nI (k + 1) + Int32.ofInt (-1) = nI k from nI_m1 k]
      exact ih _ _ _ (by omega) (lb_a (pg_obody hO) (pg_dbody hDB) (lb_x (by decide) (lb_a (pg_oE T) (pg_dE T) (lb_s (pg_isl f57 (by decide)) h0)))) h82 (fun σ' y h' => hX σ' y (pc_e h' (by simp only [pg_whl, pg_ite, pg_seq, pg_tok, if_true, f57, pg_cond]; done) (by simp only [pg_whl, pg_ite, pg_seq, pg_tok, if_true, f57, pg_cond, List.append_assoc, List.nil_append, List.append_nil, List.cons_append, List.singleton_append, List.length_append, List.length_cons, List.length_nil, List.length_singleton]; done)))
theorem pp104 {d : Nat} {T : pg_T} {n : Nat} {σ0 σ : pm_S} {c : pg_C} {l s : List pg_N} {Q : Option Value → pm_S → Prop} {B : pg_P} (hK : pc_K T n σ0) (hd : 620 ≤ d) (hO : pg_O T B) (hDB : pg_D T B) (hB : ∀ c', pg_lb T (c.2.2 + 1) c' → pb_B T n σ0 (d + 5) B c') (hl : pg_live T c ∧ T.1 c.1 ≠ 44) (hR : pc_R T n σ0 σ c l s) (hQ : ∀ σ', pc_R T n σ0 σ' (pg_if T B c).1 l (s ++ (pg_if T B c).2) → Q none σ') : pm_call pm_Y0 (d + 6) 104 [.ref 4] σ Q := by
  have eI : pg_if T B = pg_node 15 (pg_pl T) (fun _ => 0) (pg_seq (pg_tok pg_opn) (pg_seq (pg_cond T B) (pg_seq (pg_whl (pg_is T 18) (pg_seq (pg_tok pg_stp) (pg_cond T B)) pg_M) (pg_i91 T B)))) := rfl
  refine wq_m m104 (Nat.le_of_ble_eq_true rfl) (by decide) rfl ?_
  refine wq_l 1 d104_0 rfl rfl rfl rfl ?_
  refine wq_gr (ci := 4) (j := 1) (q := 3) 4 d104_1 rfl rfl rfl rfl ?_
  refine wq_k 6 15 d104_4 (by decide) rfl ?_
  refine wq_l 7 d104_6 rfl rfl rfl rfl ?_
  refine wq_gr (ci := 4) (j := 0) (q := 2) 10 d104_7 rfl rfl rfl rfl ?_
  refine wq_v 13 [] d104_10 rfl rfl m46 rfl rfl (Nat.le_of_ble_eq_true rfl) rfl (pk46 hK hR ?_)
  refine wq_k 14 0 d104_13 (by decide) rfl ?_
  refine wq_v 17 [_, _, _] d104_14 rfl rfl m57 rfl rfl (Nat.le_of_ble_eq_true rfl) rfl (pk57o (k := 15) hR (fun σ14 x14 hx14 h14 => ?_))
  refine wq_s 18 d104_17 rfl rfl (Nat.le_of_ble_eq_true rfl) rfl rfl ?_
  refine wq_l 19 d104_18 rfl rfl rfl rfl ?_
  refine wq_v 22 [] d104_19 rfl rfl m97 rfl rfl (Nat.le_of_ble_eq_true rfl) rfl (pk97 hK h14 (hl).1 (hl).2 (fun σ19 h19 => ?_))
  refine wq_l 23 d104_22 rfl rfl rfl rfl ?_
  refine wq_k 24 (-1) d104_23 (by decide) rfl ?_
  refine wq_v 27 [_] d104_24 rfl rfl m98 rfl rfl (Nat.le_of_ble_eq_true rfl) rfl (pp98 hK (by omega) _ _ _ _ h19 (fun σ24 h24 => ?_))
  refine wq_l 28 d104_27 rfl rfl rfl rfl ?_
  refine wq_gr (ci := 4) (j := 0) (q := 2) 31 d104_28 rfl rfl rfl rfl ?_
  refine wq_k 33 17 d104_31 (by decide) rfl ?_
  refine wq_v 36 [_] d104_33 rfl rfl m49 rfl rfl (Nat.le_of_ble_eq_true rfl) rfl (pk49 (k := 17) hK (by decide) h24 (fun σ33 h33 => ?_))
  refine wq_l 37 d104_36 rfl rfl rfl rfl ?_
  refine wq_v 40 [] d104_37 rfl rfl m94 rfl rfl (Nat.le_of_ble_eq_true rfl) rfl (hB _ (lb_x (by decide) (lb_a (pg_oE T) (pg_dE T) lb_o)) _ _ _ _ h33 (fun σ37 h37 => ?_))
  refine wq_k 43 8192 d104_40 (by decide) rfl ?_
  refine wq_s 44 d104_43 rfl rfl (Nat.le_of_ble_eq_true rfl) rfl rfl ?_
  refine pl104 (x := x14) hK hd hO hDB hB pg_M _ _ _ (Nat.le_refl _) (lb_a (pg_obody hO) (pg_dbody hDB) (lb_x (by decide) (lb_a (pg_oE T) (pg_dE T) lb_o))) h37 (fun σl yl hl => ?_)
  exact pq104_91 hK (Nat.succ_pos _) hd hO hDB hB (lb_a (pg_owhl (pg_gis T (by decide)) (pg_oseq (pg_ostpt T) (pg_ocond hO hDB) (pg_dcond hDB)) pg_M) (pg_dwhl (pg_gis T (by decide)) pg_M) (lb_a (pg_obody hO) (pg_dbody hDB) (lb_x (by decide) (lb_a (pg_oE T) (pg_dE T) lb_o)))) hx14 hl (fun σ' h' => hQ σ' (pc_e h' (by simp only [eI, pg_node, pg_seq, pg_tok, pg_cond, if_true, if_false, Bool.false_eq_true]; done) (by simp only [eI, pg_node, pg_seq, pg_tok, pg_cond, List.append_assoc, List.nil_append, List.append_nil, List.cons_append, List.singleton_append, List.length_append, List.length_cons, List.length_nil, List.length_singleton, if_true, if_false, Bool.false_eq_true]; done)))
/-! CASE -/
def pg_c114 (T : pg_T) : pg_P := pg_tok (fun c => pg_dec (pg_exp T 22 c))
def pg_c91 (T : pg_T) (B : pg_P) : pg_P := pg_seq (pg_else T B) (pg_c114 T)
theorem pq105_114 {d : Nat} {T : pg_T} {n : Nat} {σ0 σ : pm_S} {c : pg_C} {L r : List pg_N} {k0 p0 z0 : Nat} {v0 x : Int32} {Q : Option Value → pm_S → Prop} {B : pg_P} {o : Nat} {y : Int32} {u : Value} (hK : pc_K T n σ0) (ho : 1 ≤ o) (hd : 620 ≤ d) (hO : pg_O T B) (hDB : pg_D T B) (hB : ∀ c', pg_lb T o c' → pb_B T n σ0 (d + 5) B c') (hb : pg_lb T o c) (hx : L.length < 16386 → x = nI L.length) (hR : pc_R T n σ0 σ c (L ++ [(k0, p0, v0, z0)]) r) (hQ : ∀ σ', pc_R T n σ0 σ' (pg_c114 T c).1 L ((k0, p0, v0, (r ++ (pg_c114 T c).2).length + 1) :: (r ++ (pg_c114 T c).2)) → Q none σ') : pm_WP pm_Y0 (pm_call pm_Y0 (d + 5)) 4 prog_6_method_18_code none Q 114 [.ref 4, .int x, .int y, u] [] σ := by
  refine wq_l 115 d105_114 rfl rfl rfl rfl ?_
  refine wq_gr (ci := 4) (j := 0) (q := 2) 118 d105_115 rfl rfl rfl rfl ?_
  refine wq_k 120 22 d105_118 (by decide) rfl ?_
  refine wq_v 123 [_] d105_120 rfl rfl m49 rfl rfl (Nat.le_of_ble_eq_true rfl) rfl (pk49 (k := 22) hK (by decide) hR (fun σ120 h120 => ?_))
  refine wq_l 124 d105_123 rfl rfl rfl rfl ?_
  refine wq_a 125 d105_124 rfl rfl ?_
  refine wq_gi (ci := 4) (j := 2) 128 d105_125 rfl rfl rfl rfl ?_
  refine wq_k 129 1 d105_128 (by decide) rfl ?_
  refine wq_a 130 d105_129 rfl rfl ?_
  refine wq_pf (ci := 4) (j := 2) 133 d105_130 rfl rfl rfl ⟨rfl, rfl⟩ rfl ?_
  have hd130 := pc_dec h120 (fun z => Nat.le_trans ho ((lb_x (by decide) hb) z))
  refine wq_l 134 d105_133 rfl rfl rfl rfl ?_
  refine wq_gr (ci := 4) (j := 1) (q := 3) 137 d105_134 rfl rfl rfl rfl ?_
  refine wq_l 138 d105_137 rfl rfl rfl rfl ?_
  refine wq_v 141 [_] d105_138 rfl rfl m59 rfl rfl (Nat.le_of_ble_eq_true rfl) rfl (pk59 hx hd130 (fun σ138 h138 => ?_))
  refine wq_rv d105_141 ?_
  exact hQ _ (pc_e h138 (by simp only [pg_c114, pg_tok, if_true, if_false, Bool.false_eq_true]; done) (by simp only [pg_c114, pg_tok, List.append_assoc, List.nil_append, List.append_nil, List.cons_append, List.singleton_append, List.length_append, List.length_cons, List.length_nil, List.length_singleton, if_true, if_false, Bool.false_eq_true]; done))
theorem pq105_91 {d : Nat} {T : pg_T} {n : Nat} {σ0 σ : pm_S} {c : pg_C} {L r : List pg_N} {k0 p0 z0 : Nat} {v0 x : Int32} {Q : Option Value → pm_S → Prop} {B : pg_P} {o : Nat} {y : Int32} {u : Value} (hK : pc_K T n σ0) (ho : 1 ≤ o) (hd : 620 ≤ d) (hO : pg_O T B) (hDB : pg_D T B) (hB : ∀ c', pg_lb T o c' → pb_B T n σ0 (d + 5) B c') (hb : pg_lb T o c) (hx : L.length < 16386 → x = nI L.length) (hR : pc_R T n σ0 σ c (L ++ [(k0, p0, v0, z0)]) r) (hQ : ∀ σ', pc_R T n σ0 σ' (pg_c91 T B c).1 L ((k0, p0, v0, (r ++ (pg_c91 T B c).2).length + 1) :: (r ++ (pg_c91 T B c).2)) → Q none σ') : pm_WP pm_Y0 (pm_call pm_Y0 (d + 5)) 4 prog_6_method_18_code none Q 91 [.ref 4, .int x, .int y, u] [] σ := by
  refine wq_l 92 d105_91 rfl rfl rfl rfl ?_
  refine wq_gr (ci := 4) (j := 0) (q := 2) 95 d105_92 rfl rfl rfl rfl ?_
  refine wq_k 97 19 d105_95 (by decide) rfl ?_
  refine wq_v 100 [_] d105_97 rfl rfl m51 rfl rfl (Nat.le_of_ble_eq_true rfl) rfl (pk51 (k := 19) hK (by decide) hR ?_)
  refine wq_b 114 103 d105_100 rfl (by decide) rfl (fun c100 => ?_) (fun c100 => ?_)
  · -- pc 114
    have f100 := b2z c100
    exact pq105_114 hK ho hd hO hDB hB hb hx hR (fun σ' h' => hQ σ' (pc_e h' (by simp only [pg_c91, pg_else, pg_ite, pg_seq, pg_tok, pg_nil, if_true, if_false, Bool.false_eq_true, f100]; done) (by simp only [pg_c91, pg_else, pg_ite, pg_seq, pg_tok, pg_nil, List.append_assoc, List.nil_append, List.append_nil, List.cons_append, List.singleton_append, List.length_append, List.length_cons, List.length_nil, List.length_singleton, if_true, if_false, Bool.false_eq_true, f100]; done)))
  · -- pc 103
    have f100 := b2n c100
    refine wq_l 104 d105_103 rfl rfl rfl rfl ?_
    refine wq_gr (ci := 4) (j := 0) (q := 2) 107 d105_104 rfl rfl rfl rfl ?_
    refine wq_v 110 [] d105_107 rfl rfl m47 rfl rfl (Nat.le_of_ble_eq_true rfl) rfl (pk47 hK hR (pg_isl f100 (by decide)).1 (pg_isl f100 (by decide)).2 (fun σ107 h107 => ?_))
    refine wq_l 111 d105_110 rfl rfl rfl rfl ?_
    refine wq_v 114 [] d105_111 rfl rfl m94 rfl rfl (Nat.le_of_ble_eq_true rfl) rfl (hB _ (lb_s (pg_isl f100 (by decide)) hb) _ _ _ _ h107 (fun σ111 h111 => ?_))
    exact pq105_114 hK ho hd hO hDB hB (lb_a (pg_obody hO) (pg_dbody hDB) (lb_s (pg_isl f100 (by decide)) hb)) hx h111 (fun σ' h' => hQ σ' (pc_e h' (by simp only [pg_c91, pg_else, pg_ite, pg_seq, pg_tok, pg_nil, if_true, if_false, Bool.false_eq_true, f100]; done) (by simp only [pg_c91, pg_else, pg_ite, pg_seq, pg_tok, pg_nil, List.append_assoc, List.nil_append, List.append_nil, List.cons_append, List.singleton_append, List.length_append, List.length_cons, List.length_nil, List.length_singleton, if_true, if_false, Bool.false_eq_true, f100]; done)))
theorem pg_chR {T : pg_T} {B : pg_P} {c : pg_C} : (pg_seq (pg_sep T (pg_range T) pg_M) (pg_tok (pg_exp T 58)) c).1 = pg_exp T 58 (pg_sep T (pg_range T) pg_M c).1 := rfl
theorem lb_rg {T : pg_T} {o : Nat} {c : pg_C} (h : pg_lb T o c) : pg_lb T o (pg_seq (pg_sep T (pg_range T) pg_M) (pg_tok (pg_exp T 58)) c).1 := lb_x (by decide) (lb_a (pg_osep (pg_orange T) (pg_drange T) pg_M) (pg_dsep (pg_drange T) pg_M) h)
theorem pl105 {d : Nat} {T : pg_T} {n : Nat} {σ0 : pm_S} {l : List pg_N} {Q : Option Value → pm_S → Prop} {x : Int32} {B : pg_P} {o : Nat} (hK : pc_K T n σ0) (hd : 620 ≤ d) (hO : pg_O T B) (hDB : pg_D T B) (hB : ∀ c', pg_lb T o c' → pb_B T n σ0 (d + 5) B c') : ∀ (k : Nat) (σ : pm_S) (c : pg_C) (s : List pg_N) (u : Value), k ≤ 8192 → pg_lb T o c → pc_R T n σ0 σ c l s → (∀ σ' (y : Int32) (u : Value), pc_R T n σ0 σ' (pg_whl (pg_any T [42, 61, 35, 36]) (pg_choice T B) k c).1 l (s ++ (pg_whl (pg_any T [42, 61, 35, 36]) (pg_choice T B) k c).2) → pm_WP pm_Y0 (pm_call pm_Y0 (d + 5)) 4 prog_6_method_18_code none Q 91 [.ref 4, .int x, .int y, u] [] σ') → pm_WP pm_Y0 (pm_call pm_Y0 (d + 5)) 4 prog_6_method_18_code none Q 40 [.ref 4, .int x, .int (nI k), u] [] σ := by
  intro k
  induction k with
  | zero =>
    intro σ c s u hk h0 hR hX
    refine wq_l 41 d105_40 rfl rfl rfl rfl ?_
    refine wq_b 91 44 d105_41 rfl (by decide) rfl (fun c41 => ?_) (fun c41 => absurd (by decide) c41)
    exact hX _ _ _ (pc_e hR rfl (by simp only [pg_whl, pg_nil, List.append_nil]; done))
  | succ k ih =>
    intro σ c s u hk h0 hR hX
    have ek := nI_toInt (n := k + 1) (by omega)
    refine wq_l 41 d105_40 rfl rfl rfl rfl ?_
    refine wq_b 91 44 d105_41 rfl (by decide) rfl (fun c41 => absurd c41 ((by simp only [i_lt, i_le, i_eq, ne_eq, Int32.reduceToInt, b2_0, b2_1, decide_eq_true_eq, decide_eq_false_iff_not, Bool.not_eq_true, Bool.not_eq_false] at * <;> omega))) (fun c41 => ?_)
    refine wq_l 45 d105_44 rfl rfl rfl rfl ?_
    refine wq_v 48 [] d105_45 rfl rfl m106 rfl rfl (Nat.le_of_ble_eq_true rfl) rfl (pp106 hK hR ?_)
    refine wq_b 91 51 d105_48 rfl (by decide) rfl (fun c48 => ?_) (fun c48 => ?_)
    · -- pc 91
      have f48 := b2z c48
      exact hX _ _ _ (pc_e hR (by simp only [pg_whl, pg_ite, pg_choice, pg_node, pg_seq, pg_tok, pg_nil, if_true, if_false, Bool.false_eq_true, f48]; done) (by simp only [pg_whl, pg_ite, pg_choice, pg_node, pg_seq, pg_tok, pg_nil, if_true, if_false, Bool.false_eq_true, f48, List.append_assoc, List.nil_append, List.append_nil, List.cons_append, List.singleton_append, List.length_append, List.length_cons, List.length_nil, List.length_singleton]; done))
    · -- pc 51
      have f48 := b2n c48
      refine wq_l 52 d105_51 rfl rfl rfl rfl ?_
      refine wq_gr (ci := 4) (j := 1) (q := 3) 55 d105_52 rfl rfl rfl rfl ?_
      refine wq_k 57 17 d105_55 (by decide) rfl ?_
      refine wq_l 58 d105_57 rfl rfl rfl rfl ?_
      refine wq_gr (ci := 4) (j := 0) (q := 2) 61 d105_58 rfl rfl rfl rfl ?_
      refine wq_v 64 [] d105_61 rfl rfl m46 rfl rfl (Nat.le_of_ble_eq_true rfl) rfl (pk46 hK hR ?_)
      refine wq_k 65 0 d105_64 (by decide) rfl ?_
      refine wq_v 68 [_, _, _] d105_65 rfl rfl m57 rfl rfl (Nat.le_of_ble_eq_true rfl) rfl (pk57o (k := 17) hR (fun σ65 x65 hx65 h65 => ?_))
      refine wq_s 69 d105_68 rfl rfl (Nat.le_of_ble_eq_true rfl) rfl rfl ?_
      refine wq_l 70 d105_69 rfl rfl rfl rfl ?_
      refine wq_v 73 [] d105_70 rfl rfl m107 rfl rfl (Nat.le_of_ble_eq_true rfl) rfl (pp107 hK h65 (fun σ70 h70 => ?_))
      refine wq_l 74 d105_73 rfl rfl rfl rfl ?_
      refine wq_v 77 [] d105_74 rfl rfl m94 rfl rfl (Nat.le_of_ble_eq_true rfl) rfl (hB _ (lb_rg h0) _ _ _ _ h70 (fun σ74 h74 => ?_))
      refine wq_l 78 d105_77 rfl rfl rfl rfl ?_
      refine wq_gr (ci := 4) (j := 1) (q := 3) 81 d105_78 rfl rfl rfl rfl ?_
      refine wq_l 82 d105_81 rfl rfl rfl rfl ?_
      refine wq_v 85 [_] d105_82 rfl rfl m59 rfl rfl (Nat.le_of_ble_eq_true rfl) rfl (pk59 hx65 h74 (fun σ82 h82 => ?_))
      refine wq_i 88 d105_85 rfl rfl rfl ?_
      refine wq_g 40 d105_88 (by decide) ?_
      rw [show nI (k + 1) + Int32.ofInt (-1) = nI k from nI_m1 k]
      exact ih _ _ _ _ (by omega) (lb_a (pg_obody hO) (pg_dbody hDB) (lb_rg h0)) (pc_e h82 rfl (List.append_assoc _ _ _)) (fun σ' y u h' => hX σ' y u (pc_e h' (by simp only [pg_whl, pg_ite, pg_choice, pg_node, pg_seq, pg_tok, pg_nil, if_true, if_false, Bool.false_eq_true, f48]; done) (by simp only [pg_whl, pg_ite, pg_choice, pg_node, pg_seq, pg_tok, pg_nil, if_true, if_false, Bool.false_eq_true, f48, List.append_assoc, List.nil_append, List.append_nil, List.cons_append, List.singleton_append, List.length_append, List.length_cons, List.length_nil, List.length_singleton]; done)))
theorem pp105 {d : Nat} {T : pg_T} {n : Nat} {σ0 σ : pm_S} {c : pg_C} {l s : List pg_N} {Q : Option Value → pm_S → Prop} {B : pg_P} (hK : pc_K T n σ0) (hd : 620 ≤ d) (hO : pg_O T B) (hDB : pg_D T B) (hB : ∀ c', pg_lb T (c.2.2 + 1) c' → pb_B T n σ0 (d + 5) B c') (hl : pg_live T c ∧ T.1 c.1 ≠ 44) (hR : pc_R T n σ0 σ c l s) (hQ : ∀ σ', pc_R T n σ0 σ' (pg_case T B c).1 l (s ++ (pg_case T B c).2) → Q none σ') : pm_call pm_Y0 (d + 6) 105 [.ref 4] σ Q := by
  have eI : pg_case T B = pg_node 16 (pg_pl T) (fun _ => 0) (pg_seq (pg_tok pg_opn) (pg_seq (pg_E T) (pg_seq (pg_tok (pg_exp T 15)) (pg_seq (pg_whl (pg_any T [42, 61, 35, 36]) (pg_choice T B) pg_M) (pg_c91 T B))))) := rfl
  refine wq_m m105 (Nat.le_of_ble_eq_true rfl) (by decide) rfl ?_
  refine wq_l 1 d105_0 rfl rfl rfl rfl ?_
  refine wq_gr (ci := 4) (j := 1) (q := 3) 4 d105_1 rfl rfl rfl rfl ?_
  refine wq_k 6 16 d105_4 (by decide) rfl ?_
  refine wq_l 7 d105_6 rfl rfl rfl rfl ?_
  refine wq_gr (ci := 4) (j := 0) (q := 2) 10 d105_7 rfl rfl rfl rfl ?_
  refine wq_v 13 [] d105_10 rfl rfl m46 rfl rfl (Nat.le_of_ble_eq_true rfl) rfl (pk46 hK hR ?_)
  refine wq_k 14 0 d105_13 (by decide) rfl ?_
  refine wq_v 17 [_, _, _] d105_14 rfl rfl m57 rfl rfl (Nat.le_of_ble_eq_true rfl) rfl (pk57o (k := 16) hR (fun σ14 x14 hx14 h14 => ?_))
  refine wq_s 18 d105_17 rfl rfl (Nat.le_of_ble_eq_true rfl) rfl rfl ?_
  refine wq_l 19 d105_18 rfl rfl rfl rfl ?_
  refine wq_v 22 [] d105_19 rfl rfl m97 rfl rfl (Nat.le_of_ble_eq_true rfl) rfl (pk97 hK h14 (hl).1 (hl).2 (fun σ19 h19 => ?_))
  refine wq_l 23 d105_22 rfl rfl rfl rfl ?_
  refine wq_k 24 (-1) d105_23 (by decide) rfl ?_
  refine wq_v 27 [_] d105_24 rfl rfl m98 rfl rfl (Nat.le_of_ble_eq_true rfl) rfl (pp98 hK (by omega) _ _ _ _ h19 (fun σ24 h24 => ?_))
  refine wq_l 28 d105_27 rfl rfl rfl rfl ?_
  refine wq_gr (ci := 4) (j := 0) (q := 2) 31 d105_28 rfl rfl rfl rfl ?_
  refine wq_k 33 15 d105_31 (by decide) rfl ?_
  refine wq_v 36 [_] d105_33 rfl rfl m49 rfl rfl (Nat.le_of_ble_eq_true rfl) rfl (pk49 (k := 15) hK (by decide) h24 (fun σ33 h33 => ?_))
  refine wq_k 39 8192 d105_36 (by decide) rfl ?_
  refine wq_s 40 d105_39 rfl rfl (Nat.le_of_ble_eq_true rfl) rfl rfl ?_
  refine pl105 (x := x14) hK hd hO hDB hB pg_M _ _ _ _ (Nat.le_refl _) (lb_x (by decide) (lb_a (pg_oE T) (pg_dE T) lb_o)) h33 (fun σl yl ul hl => ?_)
  exact pq105_91 hK (Nat.succ_pos _) hd hO hDB hB (lb_a (pg_owhl (pg_gany T (by decide)) (pg_ochoice hO hDB) pg_M) (pg_dwhl (pg_gany T (by decide)) pg_M) (lb_x (by decide) (lb_a (pg_oE T) (pg_dE T) lb_o))) hx14 hl (fun σ' h' => hQ σ' (pc_e h' (by simp only [eI, pg_node, pg_seq, pg_tok, if_true, if_false, Bool.false_eq_true]; done) (by simp only [eI, pg_node, pg_seq, pg_tok, List.append_assoc, List.nil_append, List.append_nil, List.cons_append, List.singleton_append, List.length_append, List.length_cons, List.length_nil, List.length_singleton, if_true, if_false, Bool.false_eq_true]; done)))
/-! FOR -/
def pg_f95 (T : pg_T) (B : pg_P) : pg_P := pg_seq (pg_tok (pg_exp T 26)) (pg_seq (pg_body T B) (pg_tok (fun c => pg_dec (pg_exp T 27 c))))
theorem pq108_95 {d : Nat} {T : pg_T} {n : Nat} {σ0 σ : pm_S} {c : pg_C} {L r : List pg_N} {k0 p0 z0 : Nat} {v0 x : Int32} {Q : Option Value → pm_S → Prop} {B : pg_P} {o : Nat}  (hK : pc_K T n σ0) (ho : 1 ≤ o) (hd : 620 ≤ d) (hO : pg_O T B) (hDB : pg_D T B) (hB : ∀ c', pg_lb T o c' → pb_B T n σ0 (d + 5) B c') (hb : pg_lb T o c) (hx : L.length < 16386 → x = nI L.length) (hR : pc_R T n σ0 σ c (L ++ [(k0, p0, v0, z0)]) r) (hQ : ∀ σ', pc_R T n σ0 σ' (pg_f95 T B c).1 L ((k0, p0, v0, (r ++ (pg_f95 T B c).2).length + 1) :: (r ++ (pg_f95 T B c).2)) → Q none σ') : pm_WP pm_Y0 (pm_call pm_Y0 (d + 5)) 4 prog_6_method_20_code none Q 95 [.ref 4, .int x] [] σ := by
  refine wq_l 96 d108_95 rfl rfl rfl rfl ?_
  refine wq_gr (ci := 4) (j := 0) (q := 2) 99 d108_96 rfl rfl rfl rfl ?_
  refine wq_k 101 26 d108_99 (by decide) rfl ?_
  refine wq_v 104 [_] d108_101 rfl rfl m49 rfl rfl (Nat.le_of_ble_eq_true rfl) rfl (pk49 (k := 26) hK (by decide) hR (fun σ101 h101 => ?_))
  refine wq_l 105 d108_104 rfl rfl rfl rfl ?_
  refine wq_v 108 [] d108_105 rfl rfl m94 rfl rfl (Nat.le_of_ble_eq_true rfl) rfl (hB _ (lb_x (by decide) hb) _ _ _ _ h101 (fun σ105 h105 => ?_))
  refine wq_l 109 d108_108 rfl rfl rfl rfl ?_
  refine wq_gr (ci := 4) (j := 0) (q := 2) 112 d108_109 rfl rfl rfl rfl ?_
  refine wq_k 114 27 d108_112 (by decide) rfl ?_
  refine wq_v 117 [_] d108_114 rfl rfl m49 rfl rfl (Nat.le_of_ble_eq_true rfl) rfl (pk49 (k := 27) hK (by decide) h105 (fun σ114 h114 => ?_))
  refine wq_l 118 d108_117 rfl rfl rfl rfl ?_
  refine wq_a 119 d108_118 rfl rfl ?_
  refine wq_gi (ci := 4) (j := 2) 122 d108_119 rfl rfl rfl rfl ?_
  refine wq_k 123 1 d108_122 (by decide) rfl ?_
  refine wq_a 124 d108_123 rfl rfl ?_
  refine wq_pf (ci := 4) (j := 2) 127 d108_124 rfl rfl rfl ⟨rfl, rfl⟩ rfl ?_
  have hd124 := pc_dec h114 (fun z => Nat.le_trans ho ((lb_x (by decide) (lb_a (pg_obody hO) (pg_dbody hDB) (lb_x (by decide) hb))) z))
  refine wq_l 128 d108_127 rfl rfl rfl rfl ?_
  refine wq_gr (ci := 4) (j := 1) (q := 3) 131 d108_128 rfl rfl rfl rfl ?_
  refine wq_l 132 d108_131 rfl rfl rfl rfl ?_
  refine wq_v 135 [_] d108_132 rfl rfl m59 rfl rfl (Nat.le_of_ble_eq_true rfl) rfl (pk59 hx hd124 (fun σ132 h132 => ?_))
  refine wq_rv d108_135 ?_
  exact hQ _ (pc_e h132 (by simp only [pg_f95, pg_seq, pg_tok, if_true, if_false, Bool.false_eq_true]; done) (by simp only [pg_f95, pg_seq, pg_tok, List.append_assoc, List.nil_append, List.append_nil, List.cons_append, List.singleton_append, List.length_append, List.length_cons, List.length_nil, List.length_singleton, if_true, if_false, Bool.false_eq_true]; done))
theorem pp108 {d : Nat} {T : pg_T} {n : Nat} {σ0 σ : pm_S} {c : pg_C} {l s : List pg_N} {Q : Option Value → pm_S → Prop} {B : pg_P} (hK : pc_K T n σ0) (hd : 620 ≤ d) (hO : pg_O T B) (hDB : pg_D T B) (hB : ∀ c', pg_lb T (c.2.2 + 1) c' → pb_B T n σ0 (d + 5) B c') (hl : pg_live T c ∧ T.1 c.1 ≠ 44) (hR : pc_R T n σ0 σ c l s) (hQ : ∀ σ', pc_R T n σ0 σ' (pg_for T B c).1 l (s ++ (pg_for T B c).2) → Q none σ') : pm_call pm_Y0 (d + 6) 108 [.ref 4] σ Q := by
  have eI : pg_for T B = pg_node 19 (pg_pl T) (fun c => pg_v T (pg_opn c)) (pg_seq (pg_tok (fun c => pg_exp T 47 (pg_exp T 41 (pg_opn c)))) (pg_seq (pg_const T) (pg_seq (pg_tok (pg_exp T 24)) (pg_seq (pg_const T) (pg_seq (pg_ite (pg_is T 25) (pg_seq (pg_tok pg_stp) (pg_const T)) pg_nil) (pg_f95 T B)))))) := rfl
  refine wq_m m108 (Nat.le_of_ble_eq_true rfl) (by decide) rfl ?_
  refine wq_l 1 d108_0 rfl rfl rfl rfl ?_
  refine wq_gr (ci := 4) (j := 1) (q := 3) 4 d108_1 rfl rfl rfl rfl ?_
  refine wq_k 6 19 d108_4 (by decide) rfl ?_
  refine wq_l 7 d108_6 rfl rfl rfl rfl ?_
  refine wq_gr (ci := 4) (j := 0) (q := 2) 10 d108_7 rfl rfl rfl rfl ?_
  refine wq_v 13 [] d108_10 rfl rfl m46 rfl rfl (Nat.le_of_ble_eq_true rfl) rfl (pk46 hK hR ?_)
  refine wq_k 14 0 d108_13 (by decide) rfl ?_
  refine wq_v 17 [_, _, _] d108_14 rfl rfl m57 rfl rfl (Nat.le_of_ble_eq_true rfl) rfl (pk57o (k := 19) hR (fun σ14 x14 hx14 h14 => ?_))
  refine wq_s 18 d108_17 rfl rfl (Nat.le_of_ble_eq_true rfl) rfl rfl ?_
  refine wq_l 19 d108_18 rfl rfl rfl rfl ?_
  refine wq_v 22 [] d108_19 rfl rfl m97 rfl rfl (Nat.le_of_ble_eq_true rfl) rfl (pk97 hK h14 (hl).1 (hl).2 (fun σ19 h19 => ?_))
  refine wq_l 23 d108_22 rfl rfl rfl rfl ?_
  refine wq_gr (ci := 4) (j := 1) (q := 3) 26 d108_23 rfl rfl rfl rfl ?_
  refine wq_l 27 d108_26 rfl rfl rfl rfl ?_
  refine wq_l 28 d108_27 rfl rfl rfl rfl ?_
  refine wq_gr (ci := 4) (j := 0) (q := 2) 31 d108_28 rfl rfl rfl rfl ?_
  refine wq_v 34 [] d108_31 rfl rfl m48 rfl rfl (Nat.le_of_ble_eq_true rfl) rfl (pk48 hK h19 ?_)
  refine wq_v 37 [_, _] d108_34 rfl rfl m58 rfl rfl (Nat.le_of_ble_eq_true rfl) rfl (pk58 hx14 h19 (fun σ34 h34 => ?_))
  refine wq_l 38 d108_37 rfl rfl rfl rfl ?_
  refine wq_gr (ci := 4) (j := 0) (q := 2) 41 d108_38 rfl rfl rfl rfl ?_
  refine wq_k 43 41 d108_41 (by decide) rfl ?_
  refine wq_v 46 [_] d108_43 rfl rfl m49 rfl rfl (Nat.le_of_ble_eq_true rfl) rfl (pk49 (k := 41) hK (by decide) h34 (fun σ43 h43 => ?_))
  refine wq_l 47 d108_46 rfl rfl rfl rfl ?_
  refine wq_gr (ci := 4) (j := 0) (q := 2) 50 d108_47 rfl rfl rfl rfl ?_
  refine wq_k 52 47 d108_50 (by decide) rfl ?_
  refine wq_v 55 [_] d108_52 rfl rfl m49 rfl rfl (Nat.le_of_ble_eq_true rfl) rfl (pk49 (k := 47) hK (by decide) h43 (fun σ52 h52 => ?_))
  refine wq_l 56 d108_55 rfl rfl rfl rfl ?_
  refine wq_v 59 [] d108_56 rfl rfl m86 rfl rfl (Nat.le_of_ble_eq_true rfl) rfl (pp86 hK h52 (fun σ56 h56 => ?_))
  refine wq_l 60 d108_59 rfl rfl rfl rfl ?_
  refine wq_gr (ci := 4) (j := 0) (q := 2) 63 d108_60 rfl rfl rfl rfl ?_
  refine wq_k 65 24 d108_63 (by decide) rfl ?_
  refine wq_v 68 [_] d108_65 rfl rfl m49 rfl rfl (Nat.le_of_ble_eq_true rfl) rfl (pk49 (k := 24) hK (by decide) h56 (fun σ65 h65 => ?_))
  refine wq_l 69 d108_68 rfl rfl rfl rfl ?_
  refine wq_v 72 [] d108_69 rfl rfl m86 rfl rfl (Nat.le_of_ble_eq_true rfl) rfl (pp86 hK h65 (fun σ69 h69 => ?_))
  refine wq_l 73 d108_72 rfl rfl rfl rfl ?_
  refine wq_gr (ci := 4) (j := 0) (q := 2) 76 d108_73 rfl rfl rfl rfl ?_
  refine wq_k 78 25 d108_76 (by decide) rfl ?_
  refine wq_v 81 [_] d108_78 rfl rfl m51 rfl rfl (Nat.le_of_ble_eq_true rfl) rfl (pk51 (k := 25) hK (by decide) h69 ?_)
  refine wq_b 95 84 d108_81 rfl (by decide) rfl (fun c81 => ?_) (fun c81 => ?_)
  · -- pc 95
    have f81 := b2z c81
    exact pq108_95 hK (Nat.succ_pos _) hd hO hDB hB (lb_a (pg_oconst T) (pg_dconst T) (lb_x (by decide) (lb_a (pg_oconst T) (pg_dconst T) (lb_x (by decide) (lb_x (by decide) lb_o))))) hx14 h69 (fun σ' h' => hQ σ' (pc_e h' (by simp only [eI, pg_node, pg_seq, pg_tok, pg_ite, pg_nil, if_true, if_false, Bool.false_eq_true, f81]; done) (by simp only [eI, pg_node, pg_seq, pg_tok, pg_ite, pg_nil, List.append_assoc, List.nil_append, List.append_nil, List.cons_append, List.singleton_append, List.length_append, List.length_cons, List.length_nil, List.length_singleton, if_true, if_false, Bool.false_eq_true, f81]; done)))
  · -- pc 84
    have f81 := b2n c81
    refine wq_l 85 d108_84 rfl rfl rfl rfl ?_
    refine wq_gr (ci := 4) (j := 0) (q := 2) 88 d108_85 rfl rfl rfl rfl ?_
    refine wq_v 91 [] d108_88 rfl rfl m47 rfl rfl (Nat.le_of_ble_eq_true rfl) rfl (pk47 hK h69 (pg_isl f81 (by decide)).1 (pg_isl f81 (by decide)).2 (fun σ88 h88 => ?_))
    refine wq_l 92 d108_91 rfl rfl rfl rfl ?_
    refine wq_v 95 [] d108_92 rfl rfl m86 rfl rfl (Nat.le_of_ble_eq_true rfl) rfl (pp86 hK h88 (fun σ92 h92 => ?_))
    exact pq108_95 hK (Nat.succ_pos _) hd hO hDB hB (lb_a (pg_oconst T) (pg_dconst T) (lb_s (pg_isl f81 (by decide)) (lb_a (pg_oconst T) (pg_dconst T) (lb_x (by decide) (lb_a (pg_oconst T) (pg_dconst T) (lb_x (by decide) (lb_x (by decide) lb_o))))))) hx14 h92 (fun σ' h' => hQ σ' (pc_e h' (by simp only [eI, pg_node, pg_seq, pg_tok, pg_ite, pg_nil, if_true, if_false, Bool.false_eq_true, f81]; done) (by simp only [eI, pg_node, pg_seq, pg_tok, pg_ite, pg_nil, List.append_assoc, List.nil_append, List.append_nil, List.cons_append, List.singleton_append, List.length_append, List.length_cons, List.length_nil, List.length_singleton, if_true, if_false, Bool.false_eq_true, f81]; done)))
