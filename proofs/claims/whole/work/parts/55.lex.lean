/-! FORGETTING the names of the text before -/
theorem nm_pop {σ : pm_S} {c b : Nat} {st lt : Nat → Nat} (hI : nm_I σ 1 12 13 14 15 (c + 1) st lt) (hb : b < 1024) (eb : nm_b lt (st c) (st (c + 1)) = nI b) : nm_I (pm_pi (pm_pr σ 14 (upd (σ.2.2 14) b (σ.2.2 15 c))) 1 4 (nI c)) 1 12 13 14 15 c st lt := by
  obtain ⟨⟨s1, s2, s3, s4, s5, s6⟩, hC⟩ := hI
  have hmono := s4 c (by omega)
  refine ⟨⟨by omega, rfl, fun i hi => s3 i (by omega), fun i hi => s4 i (by omega), fun i hi => s5 i (by omega), fun i hi => s6 i (by omega)⟩, fun b' hb' => ?_⟩
  obtain ⟨l, c1, c2, c3⟩ := hC b' hb'
  show ∃ l, nm_C (σ.2.2 15) (upd (σ.2.2 14) b (σ.2.2 15 c) b') l ∧ (∀ x, x ∈ l ↔ (x < c ∧ nm_b lt (st x) (st (x + 1)) = nI b')) ∧ l.Pairwise (· > ·)
  by_cases q : b' = b
  · subst q
    rw [pk_us]
    have hm : c ∈ l := (c2 c).mpr ⟨by omega, eb⟩
    cases l with
    | nil => cases hm
    | cons x l =>
      have hx := (c2 x).mp (List.mem_cons_self ..)
      have hp := List.pairwise_cons.mp c3
      have hxc : x = c := by
        rcases List.mem_cons.mp hm with z | z
        · exact z.symm
        · have := hp.1 c z
          omega
      subst hxc
      refine ⟨l, c1.2, fun y => ⟨fun hy => ?_, fun hy => ?_⟩, hp.2⟩
      · have h1 := hp.1 y hy
        exact ⟨h1, ((c2 y).mp (List.mem_cons_of_mem _ hy)).2⟩
      · have h1 := (c2 y).mpr ⟨by omega, hy.2⟩
        rcases List.mem_cons.mp h1 with z | z
        · omega
        · exact z
  · rw [pk_un q]
    refine ⟨l, c1, fun y => ⟨fun hy => ?_, fun hy => (c2 y).mpr ⟨by omega, hy.2⟩⟩, c3⟩
    obtain ⟨h1, h2⟩ := (c2 y).mp hy
    refine ⟨?_, h2⟩
    rcases Nat.lt_or_ge y c with z | z
    · exact z
    · have : y = c := by omega
      subst this
      exact absurd ((nI_eq (by omega) (by omega)).mp (h2.symm.trans eb)) q
theorem nm_hl2 {Y : pm_Y} {d : Nat} {σ : pm_S} {Q : Option Value → pm_S → Prop} {kt M a e : Nat} {t : Nat → Nat} (hY : Y[kt]? = some (.inl (1, M))) (hM : M < 2 ^ 30) (hc : ∀ i, i < e → σ.2.2 kt i = nI (t i) ∧ t i < 65536) (heM : e ≤ M) : ∀ (n i : Nat) (acc : Int32), i + n = e → Q (some (.int (nm_h t acc i n &&& 1023))) σ → pm_WP Y (pm_call Y (d + 1)) 1 prog_4_method_8_code (some FieldType.int) Q 5 [.ref kt, .int (nI a), .int (nI e), .int acc, .int (nI i)] [] σ := by
  intro n
  induction n with
  | zero =>
    intro i acc hi hQ
    refine wq_l 7 d16_5 rfl rfl rfl rfl ?_
    refine wq_l 8 d16_7 rfl rfl rfl rfl ?_
    refine wq_b 30 11 d16_8 rfl (by decide) rfl (fun c8 => ?_) (fun c8 => absurd (nI_le (by omega) (by omega)) c8)
    refine wq_l 31 d16_30 rfl rfl rfl rfl ?_
    refine wq_k 34 1023 d16_31 (by decide) rfl ?_
    refine wq_a 35 d16_34 rfl rfl ?_
    refine wq_ri d16_35 (rfl) ?_
    exact hQ
  | succ n ih =>
    intro i acc hi hQ
    have hin : vp_in (nI i) M := vp_in_nI (by omega) (by omega)
    refine wq_l 7 d16_5 rfl rfl rfl rfl ?_
    refine wq_l 8 d16_7 rfl rfl rfl rfl ?_
    refine wq_b 30 11 d16_8 rfl (by decide) rfl (fun c8 => absurd c8 (nI_ge (by omega) (by omega))) (fun c8 => ?_)
    refine wq_l 12 d16_11 rfl rfl rfl rfl ?_
    refine wq_k 14 31 d16_12 (by decide) rfl ?_
    refine wq_a 15 d16_14 rfl rfl ?_
    refine wq_l 16 d16_15 rfl rfl rfl rfl ?_
    refine wq_l 18 d16_16 rfl rfl rfl rfl ?_
    refine wq_al 19 d16_18 rfl hY rfl (hin) ?_
    rw [nI_clamp (by omega), (hc i (by omega)).1]
    refine wq_vs 22 [_] d16_19 rfl rfl m17 rfl (Nat.le_of_ble_eq_true rfl) rfl (sp17 (hc i (by omega)).2 ?_)
    refine wq_a 23 d16_22 rfl rfl ?_
    refine wq_s 24 d16_23 rfl rfl (Nat.le_of_ble_eq_true rfl) rfl rfl ?_
    refine wq_i 27 d16_24 rfl rfl rfl ?_
    rw [show nI i + Int32.ofInt 1 = nI (i + 1) from (nI_succ i).symm]
    refine wq_g 5 d16_27 (by decide) ?_
    exact ih (i + 1) _ (by omega) hQ
theorem sp16b {Y : pm_Y} {d : Nat} {σ : pm_S} {Q : Option Value → pm_S → Prop} {kt M a e : Nat} {t : Nat → Nat} (hY : Y[kt]? = some (.inl (1, M))) (hM : M < 2 ^ 30) (hc : ∀ i, i < e → σ.2.2 kt i = nI (t i) ∧ t i < 65536) (hae : a ≤ e) (heM : e ≤ M) (hQ : Q (some (.int (nm_b t a e))) σ) : pm_call Y (d + 2) 16 [.ref kt, .int (nI a), .int (nI e)] σ Q := by
  refine wq_m m16 (Nat.le_of_ble_eq_true rfl) (by decide) rfl ?_
  refine wq_k 1 0 d16_0 (by decide) rfl ?_
  refine wq_s 2 d16_1 rfl rfl (Nat.le_of_ble_eq_true rfl) rfl rfl ?_
  refine wq_l 3 d16_2 rfl rfl rfl rfl ?_
  refine wq_s 5 d16_3 rfl rfl (Nat.le_of_ble_eq_true rfl) rfl rfl ?_
  exact nm_hl2 hY hM hc heM (e - a) a 0 (by omega) hQ
theorem d20_0 : decode prog_4_method_4_code 0 = .ok (.aload_n 0, 1) := by decide +kernel
theorem d20_1 : decode prog_4_method_4_code 1 = .ok (.getfield 27, 3) := by decide +kernel
theorem d20_4 : decode prog_4_method_4_code 4 = .ok (.iconst 1, 1) := by decide +kernel
theorem d20_5 : decode prog_4_method_4_code 5 = .ok (.isub, 1) := by decide +kernel
theorem d20_6 : decode prog_4_method_4_code 6 = .ok (.istore_n 1, 1) := by decide +kernel
theorem d20_7 : decode prog_4_method_4_code 7 = .ok (.iload_n 1, 1) := by decide +kernel
theorem d20_8 : decode prog_4_method_4_code 8 = .ok (.bipush 75, 2) := by decide +kernel
theorem d20_10 : decode prog_4_method_4_code 10 = .ok (.if_icmp .lt 41, 3) := by decide +kernel
theorem d20_13 : decode prog_4_method_4_code 13 = .ok (.aload_n 0, 1) := by decide +kernel
theorem d20_14 : decode prog_4_method_4_code 14 = .ok (.getfield 21, 3) := by decide +kernel
theorem d20_17 : decode prog_4_method_4_code 17 = .ok (.aload_n 0, 1) := by decide +kernel
theorem d20_18 : decode prog_4_method_4_code 18 = .ok (.getfield 13, 3) := by decide +kernel
theorem d20_21 : decode prog_4_method_4_code 21 = .ok (.aload_n 0, 1) := by decide +kernel
theorem d20_22 : decode prog_4_method_4_code 22 = .ok (.getfield 17, 3) := by decide +kernel
theorem d20_25 : decode prog_4_method_4_code 25 = .ok (.iload_n 1, 1) := by decide +kernel
theorem d20_26 : decode prog_4_method_4_code 26 = .ok (.iaload, 1) := by decide +kernel
theorem d20_27 : decode prog_4_method_4_code 27 = .ok (.aload_n 0, 1) := by decide +kernel
theorem d20_28 : decode prog_4_method_4_code 28 = .ok (.getfield 17, 3) := by decide +kernel
theorem d20_31 : decode prog_4_method_4_code 31 = .ok (.iload_n 1, 1) := by decide +kernel
theorem d20_32 : decode prog_4_method_4_code 32 = .ok (.iconst 1, 1) := by decide +kernel
theorem d20_33 : decode prog_4_method_4_code 33 = .ok (.iadd, 1) := by decide +kernel
theorem d20_34 : decode prog_4_method_4_code 34 = .ok (.iaload, 1) := by decide +kernel
theorem d20_35 : decode prog_4_method_4_code 35 = .ok (.invokestatic 67, 3) := by decide +kernel
theorem d20_38 : decode prog_4_method_4_code 38 = .ok (.aload_n 0, 1) := by decide +kernel
theorem d20_39 : decode prog_4_method_4_code 39 = .ok (.getfield 24, 3) := by decide +kernel
theorem d20_42 : decode prog_4_method_4_code 42 = .ok (.iload_n 1, 1) := by decide +kernel
theorem d20_43 : decode prog_4_method_4_code 43 = .ok (.iaload, 1) := by decide +kernel
theorem d20_44 : decode prog_4_method_4_code 44 = .ok (.iastore, 1) := by decide +kernel
theorem d20_45 : decode prog_4_method_4_code 45 = .ok (.iinc 1 (-1), 3) := by decide +kernel
theorem d20_48 : decode prog_4_method_4_code 48 = .ok (.goto (-41), 3) := by decide +kernel
theorem d20_51 : decode prog_4_method_4_code 51 = .ok (.aload_n 0, 1) := by decide +kernel
theorem d20_52 : decode prog_4_method_4_code 52 = .ok (.aload_n 0, 1) := by decide +kernel
theorem d20_53 : decode prog_4_method_4_code 53 = .ok (.getfield 27, 3) := by decide +kernel
theorem d20_56 : decode prog_4_method_4_code 56 = .ok (.bipush 75, 2) := by decide +kernel
theorem d20_58 : decode prog_4_method_4_code 58 = .ok (.invokestatic 70, 3) := by decide +kernel
theorem d20_61 : decode prog_4_method_4_code 61 = .ok (.putfield 27, 3) := by decide +kernel
theorem d20_64 : decode prog_4_method_4_code 64 = .ok (.return_, 1) := by decide +kernel
theorem m20 : pm_m 20 = some (⟨"TypeRules$Names", "forgetText", "()V"⟩, prog_4_method_4_code, 2, none, 1, 0, 2) := rfl
/-- all but names and text of a name's table are kept -/
def lx_fr (σ σ' : pm_S) : Prop := (∀ a b, ¬ (a = 1 ∧ b = 4) → σ'.1 a b = σ.1 a b) ∧ σ'.2.1 = σ.2.1 ∧ ∀ k, k ≠ 14 → σ'.2.2 k = σ.2.2 k
theorem nm_fl {d : Nat} {σ0 : pm_S} {Q : Option Value → pm_S → Prop} {c : Nat} {st lt : Nat → Nat} (hc : c < 5000) (h75 : 75 ≤ c) (hQ : ∀ σ', lx_fr σ0 σ' → nm_I σ' 1 12 13 14 15 75 st lt → Q none σ') : ∀ (n : Nat) (σ : pm_S), lx_fr σ0 σ → σ.1 1 4 = nI c → nm_I (pm_pi σ 1 4 (nI (75 + n))) 1 12 13 14 15 (75 + n) st lt → pm_WP pm_Y0 (pm_call pm_Y0 (d + 2)) 1 prog_4_method_4_code none Q 7 [.ref 1, .int (nI (74 + n))] [] σ := by
  intro n
  induction n with
  | zero =>
    intro σ hF h4 hI
    have ec := nI_toInt (n := c) (by omega)
    have emn : (if (75 : Int32) < nI c then (75 : Int32) else nI c) = nI 75 := by
      show (if nI 75 < nI c then nI 75 else nI c) = nI 75
      rcases Nat.lt_or_ge 75 c with q | q
      · rw [if_pos (nI_lt (a := 75) q (by omega))]
      · rw [if_neg (nI_nlt (a := 75) (by omega) (by omega)), show c = 75 by omega]
    have e74 : (nI (74 + 0)).toInt = 74 := rfl
    refine wq_l 8 d20_7 rfl rfl rfl rfl ?_
    refine wq_k 10 75 d20_8 (by decide) rfl ?_
    refine wq_b 51 13 d20_10 rfl (by decide) rfl (fun c10 => ?_) (fun c10 => absurd ((by simp only [i_lt, i_le, i_eq, ne_eq, Int32.reduceToInt, b2_0, b2_1, decide_eq_true_eq, decide_eq_false_iff_not, Bool.not_eq_true, Bool.not_eq_false] at * <;> omega)) c10)
    refine wq_l 52 d20_51 rfl rfl rfl rfl ?_
    refine wq_l 53 d20_52 rfl rfl rfl rfl ?_
    refine wq_gi (ci := 1) (j := 4) 56 d20_53 rfl rfl rfl rfl ?_
    rw [h4]
    refine wq_k 58 75 d20_56 (by decide) rfl ?_
    refine wq_mn 61 d20_58 rfl (by decide) rfl ?_
    rw [emn]
    refine wq_pf (ci := 1) (j := 4) 64 d20_61 rfl rfl rfl ⟨rfl, rfl⟩ rfl ?_
    refine wq_rv d20_64 ?_
    refine hQ _ ⟨fun a b h => ?_, hF.2.1, hF.2.2⟩ hI
    show (if a = 1 then (if b = 4 then _ else σ.1 a b) else σ.1 a b) = _
    by_cases q : a = 1
    · rw [if_pos q, if_neg (fun z => h ⟨q, z⟩)]; exact hF.1 a b h
    · rw [if_neg q]; exact hF.1 a b h
  | succ n ih =>
    intro σ hF h4 hI
    have hI' := hI
    obtain ⟨⟨s1, s2, s3, s4, s5, s6⟩, hC⟩ := hI'
    have en := nI_toInt (n := 75 + n) (by omega)
    have en2 : nI (74 + (n + 1)) = nI (75 + n) := by congr 1; omega
    have g1 : σ.2.2 13 (75 + n) = nI (st (75 + n)) := s3 (75 + n) (by omega)
    have g2 : σ.2.2 13 (75 + n + 1) = nI (st (75 + n + 1)) := s3 (75 + n + 1) (by omega)
    have hm := s4 (75 + n) (by omega)
    have hle := s5 (75 + n + 1) (by omega)
    obtain ⟨b, hb, eb⟩ := nm_b_in lt (st (75 + n)) (st (75 + n + 1))
    have ebt := nI_toInt (n := b) (by omega)
    rw [en2]
    refine wq_l 8 d20_7 rfl rfl rfl rfl ?_
    refine wq_k 10 75 d20_8 (by decide) rfl ?_
    refine wq_b 51 13 d20_10 rfl (by decide) rfl (fun c10 => absurd c10 ((by simp only [i_lt, i_le, i_eq, ne_eq, Int32.reduceToInt, b2_0, b2_1, decide_eq_true_eq, decide_eq_false_iff_not, Bool.not_eq_true, Bool.not_eq_false] at * <;> omega))) (fun c10 => ?_)
    refine wq_l 14 d20_13 rfl rfl rfl rfl ?_
    refine wq_gr (ci := 1) (j := 2) (q := 14) 17 d20_14 rfl rfl rfl rfl ?_
    refine wq_l 18 d20_17 rfl rfl rfl rfl ?_
    refine wq_gr (ci := 1) (j := 0) (q := 12) 21 d20_18 rfl rfl rfl rfl ?_
    refine wq_l 22 d20_21 rfl rfl rfl rfl ?_
    refine wq_gr (ci := 1) (j := 1) (q := 13) 25 d20_22 rfl rfl rfl rfl ?_
    refine wq_l 26 d20_25 rfl rfl rfl rfl ?_
    refine wq_al 27 d20_26 rfl rfl rfl (vp_in_iff.mpr (by simp only [i_lt, i_le, i_eq, ne_eq, Int32.reduceToInt, b2_0, b2_1, decide_eq_true_eq, decide_eq_false_iff_not, Bool.not_eq_true, Bool.not_eq_false] at * <;> omega)) ?_
    rw [nI_clamp (by omega), g1]
    refine wq_l 28 d20_27 rfl rfl rfl rfl ?_
    refine wq_gr (ci := 1) (j := 1) (q := 13) 31 d20_28 rfl rfl rfl rfl ?_
    refine wq_l 32 d20_31 rfl rfl rfl rfl ?_
    refine wq_k 33 1 d20_32 (by decide) rfl ?_
    refine wq_a 34 d20_33 rfl rfl ?_
    rw [show nI (75 + n) + 1 = nI (75 + n + 1) from (nI_succ _).symm]
    refine wq_al 35 d20_34 rfl rfl rfl (vp_in_nI (by omega) (by decide)) ?_
    rw [nI_clamp (by omega), g2]
    refine wq_vs 38 [_, _, _] d20_35 rfl rfl m16 rfl (Nat.le_of_ble_eq_true rfl) rfl (sp16b (M := 8704) rfl (by decide) (fun i hi => s6 i hi) hm hle ?_)
    rw [eb]
    refine wq_l 39 d20_38 rfl rfl rfl rfl ?_
    refine wq_gr (ci := 1) (j := 3) (q := 15) 42 d20_39 rfl rfl rfl rfl ?_
    refine wq_l 43 d20_42 rfl rfl rfl rfl ?_
    refine wq_al 44 d20_43 rfl rfl rfl (vp_in_iff.mpr (by simp only [i_lt, i_le, i_eq, ne_eq, Int32.reduceToInt, b2_0, b2_1, decide_eq_true_eq, decide_eq_false_iff_not, Bool.not_eq_true, Bool.not_eq_false] at * <;> omega)) ?_
    rw [nI_clamp (by omega)]
    refine wq_as 45 d20_44 rfl rfl rfl (vp_in_nI hb (by decide)) ?_
    rw [nI_clamp (by omega)]
    refine wq_i 48 d20_45 rfl rfl rfl ?_
    rw [show nI (75 + n) + Int32.ofInt (-1) = nI (74 + n) from by rw [show 75 + n = (74 + n) + 1 by omega]; exact nI_m1 _]
    refine wq_g 7 d20_48 (by decide) ?_
    refine ih _ ⟨hF.1, hF.2.1, fun k hk => ?_⟩ h4 ?_
    · rw [pm_rne hk]; exact hF.2.2 k hk
    · have := nm_pop (c := 75 + n) hI hb eb
      refine cast ?_ this
      congr 1
      unfold pm_pi pm_pr
      refine Prod.ext ?_ rfl
      funext x y
      by_cases h1 : x = 1 <;> by_cases h2 : y = 4 <;> simp [h1, h2]
theorem sp20 {d : Nat} {σ : pm_S} {Q : Option Value → pm_S → Prop} {ns : List (List Nat)} (hI : nt_I σ 1 12 13 14 15 ns) (hp : nl_N 8 <+: ns) (hQ : ∀ σ', lx_fr σ σ' → nt_I σ' 1 12 13 14 15 (nl_N 8) → Q none σ') : pm_call pm_Y0 (d + 3) 20 [.ref 1] σ Q := by
  have hlen := hp.length_le
  rw [nl_N_len.1] at hlen
  have hI' : nm_I σ 1 12 13 14 15 ns.length (nt_st ns) (nt_lt ns) := hI
  have s1 := hI'.1.1
  have s2 : σ.1 1 4 = nI ns.length := hI'.1.2.1
  obtain ⟨rest, hr⟩ := hp
  have key : ∀ σ', nm_I σ' 1 12 13 14 15 75 (nt_st ns) (nt_lt ns) → nt_I σ' 1 12 13 14 15 (nl_N 8) := fun σ' h => by
    unfold nt_I
    rw [nl_N_len.1]
    refine nm_I_congr (fun i hi => ?_) (fun j hj => ?_) h
    · unfold nt_st
      rw [← hr, List.take_append_of_le_length (by rw [nl_N_len.1]; exact hi)]
    · have e : nt_st ns 75 = (nl_N 8).flatten.length := by
        have := nt_all (nl_N 8)
        rw [nl_N_len.1] at this
        rw [← this]
        unfold nt_st
        rw [← hr, List.take_append_of_le_length (by rw [nl_N_len.1]; exact Nat.le_refl _)]
      rw [e] at hj
      unfold nt_lt
      rw [← hr, List.flatten_append, List.getD_eq_getElem?_getD, List.getD_eq_getElem?_getD, List.getElem?_append_left hj]
  refine wq_m m20 (Nat.le_of_ble_eq_true rfl) (by decide) rfl ?_
  refine wq_l 1 d20_0 rfl rfl rfl rfl ?_
  refine wq_gi (ci := 1) (j := 4) 4 d20_1 rfl rfl rfl rfl ?_
  rw [s2]
  refine wq_k 5 1 d20_4 (by decide) rfl ?_
  refine wq_a 6 d20_5 rfl rfl ?_
  rw [show ns.length = (74 + (ns.length - 75)) + 1 by omega, nI_pred]
  refine wq_s 7 d20_6 rfl rfl (Nat.le_of_ble_eq_true rfl) rfl rfl ?_
  refine nm_fl (c := ns.length) (by omega) hlen (fun σ' h1 h2 => hQ σ' h1 (key σ' h2)) (ns.length - 75) σ ⟨fun _ _ _ => rfl, rfl, fun _ _ => rfl⟩ s2 ?_
  have e : pm_pi σ 1 4 (nI ns.length) = σ := by
    rw [← s2]
    unfold pm_pi
    refine Prod.ext ?_ rfl
    funext x y
    by_cases h1 : x = 1 <;> by_cases h2 : y = 4 <;> simp [h1, h2]
  rw [show 75 + (ns.length - 75) = ns.length by omega, e]
  exact hI
theorem d25_0 : decode prog_9_method_13_code 0 = .ok (.aload_n 0, 1) := by decide +kernel
theorem d25_1 : decode prog_9_method_13_code 1 = .ok (.invokevirtual 66, 3) := by decide +kernel
theorem d25_4 : decode prog_9_method_13_code 4 = .ok (.ifCond .ne 13, 3) := by decide +kernel
theorem d25_7 : decode prog_9_method_13_code 7 = .ok (.aload_n 0, 1) := by decide +kernel
theorem d25_8 : decode prog_9_method_13_code 8 = .ok (.iconst 2, 1) := by decide +kernel
theorem d25_9 : decode prog_9_method_13_code 9 = .ok (.aload_n 0, 1) := by decide +kernel
theorem d25_10 : decode prog_9_method_13_code 10 = .ok (.getfield 36, 3) := by decide +kernel
theorem d25_13 : decode prog_9_method_13_code 13 = .ok (.invokevirtual 69, 3) := by decide +kernel
theorem d25_16 : decode prog_9_method_13_code 16 = .ok (.ireturn, 1) := by decide +kernel
theorem d25_17 : decode prog_9_method_13_code 17 = .ok (.aload_n 0, 1) := by decide +kernel
theorem d25_18 : decode prog_9_method_13_code 18 = .ok (.aload_n 0, 1) := by decide +kernel
theorem d25_19 : decode prog_9_method_13_code 19 = .ok (.getfield 36, 3) := by decide +kernel
theorem d25_22 : decode prog_9_method_13_code 22 = .ok (.invokevirtual 73, 3) := by decide +kernel
theorem d25_25 : decode prog_9_method_13_code 25 = .ok (.istore_n 1, 1) := by decide +kernel
theorem d25_26 : decode prog_9_method_13_code 26 = .ok (.iload_n 1, 1) := by decide +kernel
theorem d25_27 : decode prog_9_method_13_code 27 = .ok (.iconst (-1), 1) := by decide +kernel
theorem d25_28 : decode prog_9_method_13_code 28 = .ok (.if_icmp .ne 16, 3) := by decide +kernel
theorem d25_31 : decode prog_9_method_13_code 31 = .ok (.aload_n 0, 1) := by decide +kernel
theorem d25_32 : decode prog_9_method_13_code 32 = .ok (.bipush 44, 2) := by decide +kernel
theorem d25_34 : decode prog_9_method_13_code 34 = .ok (.aload_n 0, 1) := by decide +kernel
theorem d25_35 : decode prog_9_method_13_code 35 = .ok (.getfield 36, 3) := by decide +kernel
theorem d25_38 : decode prog_9_method_13_code 38 = .ok (.iconst 0, 1) := by decide +kernel
theorem d25_39 : decode prog_9_method_13_code 39 = .ok (.invokevirtual 77, 3) := by decide +kernel
theorem d25_42 : decode prog_9_method_13_code 42 = .ok (.iconst 0, 1) := by decide +kernel
theorem d25_43 : decode prog_9_method_13_code 43 = .ok (.ireturn, 1) := by decide +kernel
theorem d25_44 : decode prog_9_method_13_code 44 = .ok (.iload_n 1, 1) := by decide +kernel
theorem d25_45 : decode prog_9_method_13_code 45 = .ok (.bipush 84, 2) := by decide +kernel
theorem d25_47 : decode prog_9_method_13_code 47 = .ok (.if_icmp .eq 9, 3) := by decide +kernel
theorem d25_50 : decode prog_9_method_13_code 50 = .ok (.iload_n 1, 1) := by decide +kernel
theorem d25_51 : decode prog_9_method_13_code 51 = .ok (.bipush 116, 2) := by decide +kernel
theorem d25_53 : decode prog_9_method_13_code 53 = .ok (.if_icmp .ne 23, 3) := by decide +kernel
theorem d25_56 : decode prog_9_method_13_code 56 = .ok (.aload_n 0, 1) := by decide +kernel
theorem d25_57 : decode prog_9_method_13_code 57 = .ok (.aload_n 0, 1) := by decide +kernel
theorem d25_58 : decode prog_9_method_13_code 58 = .ok (.getfield 36, 3) := by decide +kernel
theorem d25_61 : decode prog_9_method_13_code 61 = .ok (.iconst 1, 1) := by decide +kernel
theorem d25_62 : decode prog_9_method_13_code 62 = .ok (.iadd, 1) := by decide +kernel
theorem d25_63 : decode prog_9_method_13_code 63 = .ok (.invokevirtual 73, 3) := by decide +kernel
theorem d25_66 : decode prog_9_method_13_code 66 = .ok (.bipush 35, 2) := by decide +kernel
theorem d25_68 : decode prog_9_method_13_code 68 = .ok (.if_icmp .ne 8, 3) := by decide +kernel
theorem d25_71 : decode prog_9_method_13_code 71 = .ok (.aload_n 0, 1) := by decide +kernel
theorem d25_72 : decode prog_9_method_13_code 72 = .ok (.invokevirtual 81, 3) := by decide +kernel
theorem d25_75 : decode prog_9_method_13_code 75 = .ok (.ireturn, 1) := by decide +kernel
theorem d25_76 : decode prog_9_method_13_code 76 = .ok (.iload_n 1, 1) := by decide +kernel
theorem d25_77 : decode prog_9_method_13_code 77 = .ok (.invokestatic 84, 3) := by decide +kernel
theorem d25_80 : decode prog_9_method_13_code 80 = .ok (.ifCond .eq 8, 3) := by decide +kernel
theorem d25_83 : decode prog_9_method_13_code 83 = .ok (.aload_n 0, 1) := by decide +kernel
theorem d25_84 : decode prog_9_method_13_code 84 = .ok (.invokevirtual 88, 3) := by decide +kernel
theorem d25_87 : decode prog_9_method_13_code 87 = .ok (.ireturn, 1) := by decide +kernel
theorem d25_88 : decode prog_9_method_13_code 88 = .ok (.iload_n 1, 1) := by decide +kernel
theorem d25_89 : decode prog_9_method_13_code 89 = .ok (.invokestatic 91, 3) := by decide +kernel
theorem d25_92 : decode prog_9_method_13_code 92 = .ok (.ifCond .eq 8, 3) := by decide +kernel
theorem d25_95 : decode prog_9_method_13_code 95 = .ok (.aload_n 0, 1) := by decide +kernel
theorem d25_96 : decode prog_9_method_13_code 96 = .ok (.invokevirtual 94, 3) := by decide +kernel
theorem d25_99 : decode prog_9_method_13_code 99 = .ok (.ireturn, 1) := by decide +kernel
theorem d25_100 : decode prog_9_method_13_code 100 = .ok (.iload_n 1, 1) := by decide +kernel
theorem d25_101 : decode prog_9_method_13_code 101 = .ok (.bipush 37, 2) := by decide +kernel
theorem d25_103 : decode prog_9_method_13_code 103 = .ok (.if_icmp .ne 8, 3) := by decide +kernel
theorem d25_106 : decode prog_9_method_13_code 106 = .ok (.aload_n 0, 1) := by decide +kernel
theorem d25_107 : decode prog_9_method_13_code 107 = .ok (.invokevirtual 97, 3) := by decide +kernel
theorem d25_110 : decode prog_9_method_13_code 110 = .ok (.ireturn, 1) := by decide +kernel
theorem d25_111 : decode prog_9_method_13_code 111 = .ok (.aload_n 0, 1) := by decide +kernel
theorem d25_112 : decode prog_9_method_13_code 112 = .ok (.iload_n 1, 1) := by decide +kernel
theorem d25_113 : decode prog_9_method_13_code 113 = .ok (.invokevirtual 100, 3) := by decide +kernel
theorem d25_116 : decode prog_9_method_13_code 116 = .ok (.ireturn, 1) := by decide +kernel
theorem m25 : pm_m 25 = some (⟨"TypeRules$Tokens", "readToken", "()Z"⟩, prog_9_method_13_code, 2, (some FieldType.boolean), 2, 0, 3) := rfl
/-! TOKENS -/
theorem lx_J_sk {t : Nat → Nat} {M p q : Nat} {ns : List (List Nat)} (h : lx_J t M p ns) (hq : p ≤ q) : lx_J t M q ns := by
  obtain ⟨j1, j2, j3, j4, j5⟩ := h
  refine ⟨j1, by omega, fun z => ?_, by omega, j5⟩
  rcases Nat.eq_or_lt_of_le hq with w | w
  · subst w; exact j3 z
  · omega
theorem lx_QA {Q : Option Value → pm_S → Prop} {σ : pm_S} {c q : Nat} {r : lx_K} {ns : List (List Nat)} (hI : nt_I σ 1 12 13 14 15 ns) (h : ∀ σ', lx_A σ σ' c (nI r.1) (nI q) (nI r.2.1) ns → (r.1 ≠ 45 → σ'.1 2 7 = nI r.2.2) → Q (some (.int (b2 (decide (r.1 ≠ 45 ∧ r.1 ≠ 44))))) σ') : lx_Q Q σ c q r := fun e' a' he => h _ (la_A (σ1 := ls σ e' a') (fun x y h _ => ls_1 x y h) ls_2 (fun _ _ => rfl) hI) (fun z => congrArg nI (he z))
theorem lx_nam_k {t : Nat → Nat} {M p : Nat} {ns : List (List Nat)} : (lx_nam t M p ns).1.1 ≠ 44 := by
  unfold lx_nam
  repeat' split
  all_goals (simp only []; omega)
theorem sp25 {d : Nat} {σ : pm_S} {Q : Option Value → pm_S → Prop} {t : Nat → Nat} {M c p : Nat} {ns : List (List Nat)} (hT : lx_T σ t M) (h5 : σ.1 2 5 = nI c) (hc : c < 8193) (h7 : σ.1 2 7 = nI p) (hp : p ≤ M) (hI : nt_I σ 1 12 13 14 15 ns) (hJ : lx_J t M p ns) (hQ : ∀ σ', lx_A σ σ' c (nI (lx_nx t M (p, ns)).2.1.1) (nI (lx_nx t M (p, ns)).1) (nI (lx_nx t M (p, ns)).2.1.2.1) (lx_nx t M (p, ns)).2.2 → ((lx_nx t M (p, ns)).2.1.1 ≠ 45 → σ'.1 2 7 = nI (lx_nx t M (p, ns)).2.1.2.2) → Q (some (.int (b2 (decide ((lx_nx t M (p, ns)).2.1.1 ≠ 45 ∧ (lx_nx t M (p, ns)).2.1.1 ≠ 44))))) σ') : pm_call pm_Y0 (d + 6) 25 [.ref 2] σ Q := by
  have hT' := hT
  obtain ⟨hL, hM, hch, ht⟩ := hT'
  have hid := ls_id h7
  generalize σ.2.1 2 8 = a at hid
  have hgo : pm_call pm_Y0 (d + 6) 25 [.ref 2] (ls σ p a) Q := ?_
  · rw [hid] at hgo; exact hgo
  clear hid
  have skb := lx_sk_b (t := t) (M := M) (M + 1 - p) p hp
  have skb1 : p ≤ (lx_sk t M p).1 := skb.1
  have skb2 : (lx_sk t M p).1 ≤ M := skb.2
  clear skb
  obtain ⟨q, ok⟩ : Nat × Bool := lx_sk t M p
  generalize hS : lx_sk t M p = S at *
  obtain ⟨q, ok⟩ := S
  have skb1 : p ≤ q := skb1
  have skb2 : q ≤ M := skb2
  have hJq := lx_J_sk hJ skb1
  have e0 := lx_ci (M := M) ht q
  have e1 := lx_ci (M := M) ht (q + 1)
  have hbad : ok = false → lx_nx t M (p, ns) = (q, (45, 2, q), ns) := fun h => by unfold lx_nx; show (if (lx_sk t M p).2 = true then _ else _) = _; rw [hS, h]; rfl
  have hgood : ok = true → lx_nx t M (p, ns) = (q, lx_tok t M q ns) := fun h => by unfold lx_nx; show (if (lx_sk t M p).2 = true then _ else _) = _; rw [hS, h]; rfl
  refine wq_m m25 (Nat.le_of_ble_eq_true rfl) (by decide) rfl ?_
  refine wq_l 1 d25_0 rfl rfl rfl rfl ?_
  refine wq_v 4 [] d25_1 rfl rfl m26 rfl rfl (Nat.le_of_ble_eq_true rfl) rfl (sp26 hT hp ?_)
  rw [hS]
  dsimp only
  refine wq_b 17 7 d25_4 rfl (by decide) rfl (fun c4 => ?_) (fun c4 => ?_)
  · -- pc 17
    have hok : ok = true := by simpa only [i_lt, i_le, i_eq, ne_eq, Int32.reduceToInt, b2_0, b2_1, decide_eq_true_eq, decide_eq_false_iff_not, Bool.not_eq_true, Bool.not_eq_false] using c4
    rw [hgood hok] at hQ
    refine wq_l 18 d25_17 rfl rfl rfl rfl ?_
    refine wq_l 19 d25_18 rfl rfl rfl rfl ?_
    refine wq_gi (ci := 2) (j := 7) 22 d25_19 rfl rfl rfl rfl ?_
    rw [ls_7]
    refine wq_v 25 [_] d25_22 rfl rfl m27 rfl rfl (Nat.le_of_ble_eq_true rfl) rfl (sp27 (ls_T hT) (by omega) ?_)
    refine wq_s 26 d25_25 rfl rfl (Nat.le_of_ble_eq_true rfl) rfl rfl ?_
    refine wq_l 27 d25_26 rfl rfl rfl rfl ?_
    refine wq_k 28 (-1) d25_27 (by decide) rfl ?_
    refine wq_b 44 31 d25_28 rfl (by decide) rfl (fun c28 => ?_) (fun c28 => ?_)
    · -- pc 44
      have hq : q < M := by rcases Nat.lt_or_ge q M with z | z; exact z; exact absurd (if_neg (by omega)) c28
      rw [show lx_c t M q = nI (t q) from if_pos hq]
      have tq := ht q
      have et := nI_toInt (n := t q) (by omega)
      refine wq_l 45 d25_44 rfl rfl rfl rfl ?_
      refine wq_k 47 84 d25_45 (by decide) rfl ?_
      refine wq_b 56 50 d25_47 rfl (by decide) rfl (fun c47 => ?_) (fun c47 => ?_)
      · -- pc 56
        refine wq_l 57 d25_56 rfl rfl rfl rfl ?_
        refine wq_l 58 d25_57 rfl rfl rfl rfl ?_
        refine wq_gi (ci := 2) (j := 7) 61 d25_58 rfl rfl rfl rfl ?_
        rw [ls_7]
        refine wq_k 62 1 d25_61 (by decide) rfl ?_
        refine wq_a 63 d25_62 rfl rfl ?_
        rw [show nI q + 1 = nI (q + 1) from (nI_succ q).symm]
        refine wq_v 66 [_] d25_63 rfl rfl m27 rfl rfl (Nat.le_of_ble_eq_true rfl) rfl (sp27 (ls_T hT) (by omega) ?_)
        refine wq_k 68 35 d25_66 (by decide) rfl ?_
        refine wq_b 76 71 d25_68 rfl (by decide) rfl (fun c68 => ?_) (fun c68 => ?_)
        · -- pc 76
          have hT2 : ¬ ((t q = 84 ∨ t q = 116) ∧ lx_i t M (q + 1) = 35) := by rintro ⟨z3, z4⟩; first | (have z1 := c47; have z2 := c53; simp only [i_lt, i_le, i_eq, ne_eq, Int32.reduceToInt, b2_0, b2_1, decide_eq_true_eq, decide_eq_false_iff_not, Bool.not_eq_true, Bool.not_eq_false, et] at z1 z2; omega) | (have z2 := c68; simp only [i_lt, i_le, i_eq, ne_eq, Int32.reduceToInt, b2_0, b2_1, decide_eq_true_eq, decide_eq_false_iff_not, Bool.not_eq_true, Bool.not_eq_false, e1] at z2; omega)
          refine wq_l 77 d25_76 rfl rfl rfl rfl ?_
          refine wq_vs 80 [_] d25_77 rfl rfl m34 rfl (Nat.le_of_ble_eq_true rfl) rfl (sp34 ?_)
          rw [et]
          refine wq_b 88 83 d25_80 rfl (by decide) rfl (fun c80 => ?_) (fun c80 => ?_)
          · -- pc 88
            have hdg : ¬ lx_dg (t q) = true := by simpa only [i_lt, i_le, i_eq, ne_eq, Int32.reduceToInt, b2_0, b2_1, decide_eq_true_eq, decide_eq_false_iff_not, Bool.not_eq_true, Bool.not_eq_false] using c80
            refine wq_l 89 d25_88 rfl rfl rfl rfl ?_
            refine wq_vs 92 [_] d25_89 rfl rfl m38 rfl (Nat.le_of_ble_eq_true rfl) rfl (sp38 ?_)
            rw [et]
            refine wq_b 100 95 d25_92 rfl (by decide) rfl (fun c92 => ?_) (fun c92 => ?_)
            · -- pc 100
              have hnp : ¬ lx_np (t q) = true := by simpa only [i_lt, i_le, i_eq, ne_eq, Int32.reduceToInt, b2_0, b2_1, decide_eq_true_eq, decide_eq_false_iff_not, Bool.not_eq_true, Bool.not_eq_false] using c92
              refine wq_l 101 d25_100 rfl rfl rfl rfl ?_
              refine wq_k 103 37 d25_101 (by decide) rfl ?_
              refine wq_b 111 106 d25_103 rfl (by decide) rfl (fun c103 => ?_) (fun c103 => ?_)
              · -- pc 111
                have h37 : ¬ t q = 37 := by have z := c103; simp only [i_lt, i_le, i_eq, ne_eq, Int32.reduceToInt, b2_0, b2_1, decide_eq_true_eq, decide_eq_false_iff_not, Bool.not_eq_true, Bool.not_eq_false, et] at z; omega
                have hk : lx_tok t M q ns = (lx_sgn t M q, ns) := by unfold lx_tok; rw [if_neg (by omega), if_neg hT2, if_neg hdg, if_neg hnp]; exact if_neg h37
                rw [hk] at hQ
                refine wq_l 112 d25_111 rfl rfl rfl rfl ?_
                refine wq_l 113 d25_112 rfl rfl rfl rfl ?_
                refine wq_v 116 [_] d25_113 rfl rfl m43 rfl rfl (Nat.le_of_ble_eq_true rfl) rfl (sp43 hT h5 hc hq (lx_QA hI (fun σ' hA h7' => ?_)))
                refine wq_ri d25_116 (b2_nar _) ?_
                exact hQ σ' hA h7'
              · -- pc 106
                have h37 : t q = 37 := by have z := c103; simp only [i_lt, i_le, i_eq, ne_eq, Int32.reduceToInt, b2_0, b2_1, decide_eq_true_eq, decide_eq_false_iff_not, Bool.not_eq_true, Bool.not_eq_false, et] at z; omega
                have hk : lx_tok t M q ns = (lx_pla t M q, ns) := by unfold lx_tok; rw [if_neg (by omega), if_neg hT2, if_neg hdg, if_neg hnp]; exact if_pos h37
                rw [hk] at hQ
                refine wq_l 107 d25_106 rfl rfl rfl rfl ?_
                refine wq_v 110 [] d25_107 rfl rfl m41 rfl rfl (Nat.le_of_ble_eq_true rfl) rfl (sp41 hT h5 hc hq (lx_QA hI (fun σ' hA h7' => ?_)))
                refine wq_ri d25_110 (b2_nar _) ?_
                exact hQ σ' hA h7'
            · -- pc 95
              have hnp : lx_np (t q) = true := by simpa only [i_lt, i_le, i_eq, ne_eq, Int32.reduceToInt, b2_0, b2_1, decide_eq_true_eq, decide_eq_false_iff_not, Bool.not_eq_true, Bool.not_eq_false] using c92
              have hk : lx_tok t M q ns = lx_nam t M q ns := by unfold lx_tok; rw [if_neg (by omega), if_neg hT2, if_neg hdg]; exact if_pos hnp
              rw [hk] at hQ
              refine wq_l 96 d25_95 rfl rfl rfl rfl ?_
              refine wq_v 99 [] d25_96 rfl rfl m40 rfl rfl (Nat.le_of_ble_eq_true rfl) rfl (sp40 hT h5 hc hq hnp hI hJq (fun σ' hA h7' => ?_))
              refine wq_ri d25_99 (b2_nar _) ?_
              have := hQ σ' hA h7'
              rw [show decide ((lx_nam t M q ns).1.1 ≠ 45 ∧ (lx_nam t M q ns).1.1 ≠ 44) = decide ((lx_nam t M q ns).1.1 ≠ 45) from by have := lx_nam_k (t := t) (M := M) (p := q) (ns := ns); exact decide_eq_decide.mpr ⟨fun z => z.1, fun z => ⟨z, this⟩⟩] at this
              exact this
          · -- pc 83
            have hdg : lx_dg (t q) = true := by simpa only [i_lt, i_le, i_eq, ne_eq, Int32.reduceToInt, b2_0, b2_1, decide_eq_true_eq, decide_eq_false_iff_not, Bool.not_eq_true, Bool.not_eq_false] using c80
            have hk : lx_tok t M q ns = (lx_num t M q, ns) := by unfold lx_tok; rw [if_neg (by omega), if_neg hT2]; exact if_pos hdg
            rw [hk] at hQ
            refine wq_l 84 d25_83 rfl rfl rfl rfl ?_
            refine wq_v 87 [] d25_84 rfl rfl m39 rfl rfl (Nat.le_of_ble_eq_true rfl) rfl (sp39 hT h5 hc hq (lx_QA hI (fun σ' hA h7' => ?_)))
            refine wq_ri d25_87 (b2_nar _) ?_
            exact hQ σ' hA h7'
        · -- pc 71
          have hT2 : (t q = 84 ∨ t q = 116) ∧ lx_i t M (q + 1) = 35 := by first | (have z1 := c47; have z2 := c68; simp only [i_lt, i_le, i_eq, ne_eq, Int32.reduceToInt, b2_0, b2_1, decide_eq_true_eq, decide_eq_false_iff_not, Bool.not_eq_true, Bool.not_eq_false, et, e1] at z1 z2; exact ⟨by omega, by omega⟩) | (have z1 := c53; have z2 := c68; simp only [i_lt, i_le, i_eq, ne_eq, Int32.reduceToInt, b2_0, b2_1, decide_eq_true_eq, decide_eq_false_iff_not, Bool.not_eq_true, Bool.not_eq_false, et, e1] at z1 z2; exact ⟨by omega, by omega⟩)
          have hq1 : q + 1 < M := lx_i_in (t := t) (M := M) (p := q + 1) (by rw [hT2.2]; decide)
          have hk : lx_tok t M q ns = (lx_tim t M q, ns) := by unfold lx_tok; rw [if_neg (by omega)]; exact if_pos hT2
          rw [hk] at hQ
          refine wq_l 72 d25_71 rfl rfl rfl rfl ?_
          refine wq_v 75 [] d25_72 rfl rfl m31 rfl rfl (Nat.le_of_ble_eq_true rfl) rfl (sp31 hT h5 hc hq1 (lx_QA hI (fun σ' hA h7' => ?_)))
          refine wq_ri d25_75 (b2_nar _) ?_
          exact hQ σ' hA h7'
      · -- pc 50
        refine wq_l 51 d25_50 rfl rfl rfl rfl ?_
        refine wq_k 53 116 d25_51 (by decide) rfl ?_
        refine wq_b 76 56 d25_53 rfl (by decide) rfl (fun c53 => ?_) (fun c53 => ?_)
        · -- pc 76
          have hT2 : ¬ ((t q = 84 ∨ t q = 116) ∧ lx_i t M (q + 1) = 35) := by rintro ⟨z3, z4⟩; first | (have z1 := c47; have z2 := c53; simp only [i_lt, i_le, i_eq, ne_eq, Int32.reduceToInt, b2_0, b2_1, decide_eq_true_eq, decide_eq_false_iff_not, Bool.not_eq_true, Bool.not_eq_false, et] at z1 z2; omega) | (have z2 := c68; simp only [i_lt, i_le, i_eq, ne_eq, Int32.reduceToInt, b2_0, b2_1, decide_eq_true_eq, decide_eq_false_iff_not, Bool.not_eq_true, Bool.not_eq_false, e1] at z2; omega)
          refine wq_l 77 d25_76 rfl rfl rfl rfl ?_
          refine wq_vs 80 [_] d25_77 rfl rfl m34 rfl (Nat.le_of_ble_eq_true rfl) rfl (sp34 ?_)
          rw [et]
          refine wq_b 88 83 d25_80 rfl (by decide) rfl (fun c80 => ?_) (fun c80 => ?_)
          · -- pc 88
            have hdg : ¬ lx_dg (t q) = true := by simpa only [i_lt, i_le, i_eq, ne_eq, Int32.reduceToInt, b2_0, b2_1, decide_eq_true_eq, decide_eq_false_iff_not, Bool.not_eq_true, Bool.not_eq_false] using c80
            refine wq_l 89 d25_88 rfl rfl rfl rfl ?_
            refine wq_vs 92 [_] d25_89 rfl rfl m38 rfl (Nat.le_of_ble_eq_true rfl) rfl (sp38 ?_)
            rw [et]
            refine wq_b 100 95 d25_92 rfl (by decide) rfl (fun c92 => ?_) (fun c92 => ?_)
            · -- pc 100
              have hnp : ¬ lx_np (t q) = true := by simpa only [i_lt, i_le, i_eq, ne_eq, Int32.reduceToInt, b2_0, b2_1, decide_eq_true_eq, decide_eq_false_iff_not, Bool.not_eq_true, Bool.not_eq_false] using c92
              refine wq_l 101 d25_100 rfl rfl rfl rfl ?_
              refine wq_k 103 37 d25_101 (by decide) rfl ?_
              refine wq_b 111 106 d25_103 rfl (by decide) rfl (fun c103 => ?_) (fun c103 => ?_)
              · -- pc 111
                have h37 : ¬ t q = 37 := by have z := c103; simp only [i_lt, i_le, i_eq, ne_eq, Int32.reduceToInt, b2_0, b2_1, decide_eq_true_eq, decide_eq_false_iff_not, Bool.not_eq_true, Bool.not_eq_false, et] at z; omega
                have hk : lx_tok t M q ns = (lx_sgn t M q, ns) := by unfold lx_tok; rw [if_neg (by omega), if_neg hT2, if_neg hdg, if_neg hnp]; exact if_neg h37
                rw [hk] at hQ
                refine wq_l 112 d25_111 rfl rfl rfl rfl ?_
                refine wq_l 113 d25_112 rfl rfl rfl rfl ?_
                refine wq_v 116 [_] d25_113 rfl rfl m43 rfl rfl (Nat.le_of_ble_eq_true rfl) rfl (sp43 hT h5 hc hq (lx_QA hI (fun σ' hA h7' => ?_)))
                refine wq_ri d25_116 (b2_nar _) ?_
                exact hQ σ' hA h7'
              · -- pc 106
                have h37 : t q = 37 := by have z := c103; simp only [i_lt, i_le, i_eq, ne_eq, Int32.reduceToInt, b2_0, b2_1, decide_eq_true_eq, decide_eq_false_iff_not, Bool.not_eq_true, Bool.not_eq_false, et] at z; omega
                have hk : lx_tok t M q ns = (lx_pla t M q, ns) := by unfold lx_tok; rw [if_neg (by omega), if_neg hT2, if_neg hdg, if_neg hnp]; exact if_pos h37
                rw [hk] at hQ
                refine wq_l 107 d25_106 rfl rfl rfl rfl ?_
                refine wq_v 110 [] d25_107 rfl rfl m41 rfl rfl (Nat.le_of_ble_eq_true rfl) rfl (sp41 hT h5 hc hq (lx_QA hI (fun σ' hA h7' => ?_)))
                refine wq_ri d25_110 (b2_nar _) ?_
                exact hQ σ' hA h7'
            · -- pc 95
              have hnp : lx_np (t q) = true := by simpa only [i_lt, i_le, i_eq, ne_eq, Int32.reduceToInt, b2_0, b2_1, decide_eq_true_eq, decide_eq_false_iff_not, Bool.not_eq_true, Bool.not_eq_false] using c92
              have hk : lx_tok t M q ns = lx_nam t M q ns := by unfold lx_tok; rw [if_neg (by omega), if_neg hT2, if_neg hdg]; exact if_pos hnp
              rw [hk] at hQ
              refine wq_l 96 d25_95 rfl rfl rfl rfl ?_
              refine wq_v 99 [] d25_96 rfl rfl m40 rfl rfl (Nat.le_of_ble_eq_true rfl) rfl (sp40 hT h5 hc hq hnp hI hJq (fun σ' hA h7' => ?_))
              refine wq_ri d25_99 (b2_nar _) ?_
              have := hQ σ' hA h7'
              rw [show decide ((lx_nam t M q ns).1.1 ≠ 45 ∧ (lx_nam t M q ns).1.1 ≠ 44) = decide ((lx_nam t M q ns).1.1 ≠ 45) from by have := lx_nam_k (t := t) (M := M) (p := q) (ns := ns); exact decide_eq_decide.mpr ⟨fun z => z.1, fun z => ⟨z, this⟩⟩] at this
              exact this
          · -- pc 83
            have hdg : lx_dg (t q) = true := by simpa only [i_lt, i_le, i_eq, ne_eq, Int32.reduceToInt, b2_0, b2_1, decide_eq_true_eq, decide_eq_false_iff_not, Bool.not_eq_true, Bool.not_eq_false] using c80
            have hk : lx_tok t M q ns = (lx_num t M q, ns) := by unfold lx_tok; rw [if_neg (by omega), if_neg hT2]; exact if_pos hdg
            rw [hk] at hQ
            refine wq_l 84 d25_83 rfl rfl rfl rfl ?_
            refine wq_v 87 [] d25_84 rfl rfl m39 rfl rfl (Nat.le_of_ble_eq_true rfl) rfl (sp39 hT h5 hc hq (lx_QA hI (fun σ' hA h7' => ?_)))
            refine wq_ri d25_87 (b2_nar _) ?_
            exact hQ σ' hA h7'
        · -- pc 56
          refine wq_l 57 d25_56 rfl rfl rfl rfl ?_
          refine wq_l 58 d25_57 rfl rfl rfl rfl ?_
          refine wq_gi (ci := 2) (j := 7) 61 d25_58 rfl rfl rfl rfl ?_
          rw [ls_7]
          refine wq_k 62 1 d25_61 (by decide) rfl ?_
          refine wq_a 63 d25_62 rfl rfl ?_
          rw [show nI q + 1 = nI (q + 1) from (nI_succ q).symm]
          refine wq_v 66 [_] d25_63 rfl rfl m27 rfl rfl (Nat.le_of_ble_eq_true rfl) rfl (sp27 (ls_T hT) (by omega) ?_)
          refine wq_k 68 35 d25_66 (by decide) rfl ?_
          refine wq_b 76 71 d25_68 rfl (by decide) rfl (fun c68 => ?_) (fun c68 => ?_)
          · -- pc 76
            have hT2 : ¬ ((t q = 84 ∨ t q = 116) ∧ lx_i t M (q + 1) = 35) := by rintro ⟨z3, z4⟩; first | (have z1 := c47; have z2 := c53; simp only [i_lt, i_le, i_eq, ne_eq, Int32.reduceToInt, b2_0, b2_1, decide_eq_true_eq, decide_eq_false_iff_not, Bool.not_eq_true, Bool.not_eq_false, et] at z1 z2; omega) | (have z2 := c68; simp only [i_lt, i_le, i_eq, ne_eq, Int32.reduceToInt, b2_0, b2_1, decide_eq_true_eq, decide_eq_false_iff_not, Bool.not_eq_true, Bool.not_eq_false, e1] at z2; omega)
            refine wq_l 77 d25_76 rfl rfl rfl rfl ?_
            refine wq_vs 80 [_] d25_77 rfl rfl m34 rfl (Nat.le_of_ble_eq_true rfl) rfl (sp34 ?_)
            rw [et]
            refine wq_b 88 83 d25_80 rfl (by decide) rfl (fun c80 => ?_) (fun c80 => ?_)
            · -- pc 88
              have hdg : ¬ lx_dg (t q) = true := by simpa only [i_lt, i_le, i_eq, ne_eq, Int32.reduceToInt, b2_0, b2_1, decide_eq_true_eq, decide_eq_false_iff_not, Bool.not_eq_true, Bool.not_eq_false] using c80
              refine wq_l 89 d25_88 rfl rfl rfl rfl ?_
              refine wq_vs 92 [_] d25_89 rfl rfl m38 rfl (Nat.le_of_ble_eq_true rfl) rfl (sp38 ?_)
              rw [et]
              refine wq_b 100 95 d25_92 rfl (by decide) rfl (fun c92 => ?_) (fun c92 => ?_)
              · -- pc 100
                have hnp : ¬ lx_np (t q) = true := by simpa only [i_lt, i_le, i_eq, ne_eq, Int32.reduceToInt, b2_0, b2_1, decide_eq_true_eq, decide_eq_false_iff_not, Bool.not_eq_true, Bool.not_eq_false] using c92
                refine wq_l 101 d25_100 rfl rfl rfl rfl ?_
                refine wq_k 103 37 d25_101 (by decide) rfl ?_
                refine wq_b 111 106 d25_103 rfl (by decide) rfl (fun c103 => ?_) (fun c103 => ?_)
                · -- pc 111
                  have h37 : ¬ t q = 37 := by have z := c103; simp only [i_lt, i_le, i_eq, ne_eq, Int32.reduceToInt, b2_0, b2_1, decide_eq_true_eq, decide_eq_false_iff_not, Bool.not_eq_true, Bool.not_eq_false, et] at z; omega
                  have hk : lx_tok t M q ns = (lx_sgn t M q, ns) := by unfold lx_tok; rw [if_neg (by omega), if_neg hT2, if_neg hdg, if_neg hnp]; exact if_neg h37
                  rw [hk] at hQ
                  refine wq_l 112 d25_111 rfl rfl rfl rfl ?_
                  refine wq_l 113 d25_112 rfl rfl rfl rfl ?_
                  refine wq_v 116 [_] d25_113 rfl rfl m43 rfl rfl (Nat.le_of_ble_eq_true rfl) rfl (sp43 hT h5 hc hq (lx_QA hI (fun σ' hA h7' => ?_)))
                  refine wq_ri d25_116 (b2_nar _) ?_
                  exact hQ σ' hA h7'
                · -- pc 106
                  have h37 : t q = 37 := by have z := c103; simp only [i_lt, i_le, i_eq, ne_eq, Int32.reduceToInt, b2_0, b2_1, decide_eq_true_eq, decide_eq_false_iff_not, Bool.not_eq_true, Bool.not_eq_false, et] at z; omega
                  have hk : lx_tok t M q ns = (lx_pla t M q, ns) := by unfold lx_tok; rw [if_neg (by omega), if_neg hT2, if_neg hdg, if_neg hnp]; exact if_pos h37
                  rw [hk] at hQ
                  refine wq_l 107 d25_106 rfl rfl rfl rfl ?_
                  refine wq_v 110 [] d25_107 rfl rfl m41 rfl rfl (Nat.le_of_ble_eq_true rfl) rfl (sp41 hT h5 hc hq (lx_QA hI (fun σ' hA h7' => ?_)))
                  refine wq_ri d25_110 (b2_nar _) ?_
                  exact hQ σ' hA h7'
              · -- pc 95
                have hnp : lx_np (t q) = true := by simpa only [i_lt, i_le, i_eq, ne_eq, Int32.reduceToInt, b2_0, b2_1, decide_eq_true_eq, decide_eq_false_iff_not, Bool.not_eq_true, Bool.not_eq_false] using c92
                have hk : lx_tok t M q ns = lx_nam t M q ns := by unfold lx_tok; rw [if_neg (by omega), if_neg hT2, if_neg hdg]; exact if_pos hnp
                rw [hk] at hQ
                refine wq_l 96 d25_95 rfl rfl rfl rfl ?_
                refine wq_v 99 [] d25_96 rfl rfl m40 rfl rfl (Nat.le_of_ble_eq_true rfl) rfl (sp40 hT h5 hc hq hnp hI hJq (fun σ' hA h7' => ?_))
                refine wq_ri d25_99 (b2_nar _) ?_
                have := hQ σ' hA h7'
                rw [show decide ((lx_nam t M q ns).1.1 ≠ 45 ∧ (lx_nam t M q ns).1.1 ≠ 44) = decide ((lx_nam t M q ns).1.1 ≠ 45) from by have := lx_nam_k (t := t) (M := M) (p := q) (ns := ns); exact decide_eq_decide.mpr ⟨fun z => z.1, fun z => ⟨z, this⟩⟩] at this
                exact this
            · -- pc 83
              have hdg : lx_dg (t q) = true := by simpa only [i_lt, i_le, i_eq, ne_eq, Int32.reduceToInt, b2_0, b2_1, decide_eq_true_eq, decide_eq_false_iff_not, Bool.not_eq_true, Bool.not_eq_false] using c80
              have hk : lx_tok t M q ns = (lx_num t M q, ns) := by unfold lx_tok; rw [if_neg (by omega), if_neg hT2]; exact if_pos hdg
              rw [hk] at hQ
              refine wq_l 84 d25_83 rfl rfl rfl rfl ?_
              refine wq_v 87 [] d25_84 rfl rfl m39 rfl rfl (Nat.le_of_ble_eq_true rfl) rfl (sp39 hT h5 hc hq (lx_QA hI (fun σ' hA h7' => ?_)))
              refine wq_ri d25_87 (b2_nar _) ?_
              exact hQ σ' hA h7'
          · -- pc 71
            have hT2 : (t q = 84 ∨ t q = 116) ∧ lx_i t M (q + 1) = 35 := by first | (have z1 := c47; have z2 := c68; simp only [i_lt, i_le, i_eq, ne_eq, Int32.reduceToInt, b2_0, b2_1, decide_eq_true_eq, decide_eq_false_iff_not, Bool.not_eq_true, Bool.not_eq_false, et, e1] at z1 z2; exact ⟨by omega, by omega⟩) | (have z1 := c53; have z2 := c68; simp only [i_lt, i_le, i_eq, ne_eq, Int32.reduceToInt, b2_0, b2_1, decide_eq_true_eq, decide_eq_false_iff_not, Bool.not_eq_true, Bool.not_eq_false, et, e1] at z1 z2; exact ⟨by omega, by omega⟩)
            have hq1 : q + 1 < M := lx_i_in (t := t) (M := M) (p := q + 1) (by rw [hT2.2]; decide)
            have hk : lx_tok t M q ns = (lx_tim t M q, ns) := by unfold lx_tok; rw [if_neg (by omega)]; exact if_pos hT2
            rw [hk] at hQ
            refine wq_l 72 d25_71 rfl rfl rfl rfl ?_
            refine wq_v 75 [] d25_72 rfl rfl m31 rfl rfl (Nat.le_of_ble_eq_true rfl) rfl (sp31 hT h5 hc hq1 (lx_QA hI (fun σ' hA h7' => ?_)))
            refine wq_ri d25_75 (b2_nar _) ?_
            exact hQ σ' hA h7'
    · -- pc 31
      have hqM : M ≤ q := by rcases Nat.lt_or_ge q M with z | z; (rw [show lx_c t M q = nI (t q) from if_pos z] at c28; have tq := ht q; have et := nI_toInt (n := t q) (by omega); exfalso; simp only [i_lt, i_le, i_eq, ne_eq, Int32.reduceToInt, b2_0, b2_1, decide_eq_true_eq, decide_eq_false_iff_not, Bool.not_eq_true, Bool.not_eq_false, et] at c28; omega); exact z
      have hk : lx_tok t M q ns = ((44, 0, q), ns) := if_pos hqM
      rw [hk] at hQ
      refine wq_l 32 d25_31 rfl rfl rfl rfl ?_
      refine wq_k 34 44 d25_32 (by decide) rfl ?_
      refine wq_l 35 d25_34 rfl rfl rfl rfl ?_
      refine wq_gi (ci := 2) (j := 7) 38 d25_35 rfl rfl rfl rfl ?_
      rw [ls_7]
      refine wq_k 39 0 d25_38 (by decide) rfl ?_
      refine wq_v 42 [_, _, _] d25_39 rfl rfl m30 rfl rfl (Nat.le_of_ble_eq_true rfl) rfl (sp30 h5 hc ?_)
      refine wq_k 43 0 d25_42 (by decide) rfl ?_
      refine wq_ri d25_43 (rfl) ?_
      exact hQ _ (la_A (σ1 := ls σ q a) (fun x y h _ => ls_1 x y h) ls_2 (fun _ _ => rfl) hI) (fun _ => rfl)
  · -- pc 7
    have hok : ok = false := by simpa only [i_lt, i_le, i_eq, ne_eq, Int32.reduceToInt, b2_0, b2_1, decide_eq_true_eq, decide_eq_false_iff_not, Bool.not_eq_true, Bool.not_eq_false] using c4
    rw [hbad hok] at hQ
    refine wq_l 8 d25_7 rfl rfl rfl rfl ?_
    refine wq_k 9 2 d25_8 (by decide) rfl ?_
    refine wq_l 10 d25_9 rfl rfl rfl rfl ?_
    refine wq_gi (ci := 2) (j := 7) 13 d25_10 rfl rfl rfl rfl ?_
    rw [ls_7]
    refine wq_v 16 [_, _] d25_13 rfl rfl m29 rfl rfl (Nat.le_of_ble_eq_true rfl) rfl (sp29 h5 hc ?_)
    refine wq_ri d25_16 (rfl) ?_
    exact hQ _ (la_A (σ1 := ls σ q a) (fun x y h _ => ls_1 x y h) ls_2 (fun _ _ => rfl) hI) (fun z => absurd rfl z)
