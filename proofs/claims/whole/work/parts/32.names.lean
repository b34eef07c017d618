/-! NAMES: the chains, and numberOf -/
def nm_C (older : Nat → Int32) : Int32 → List Nat → Prop
  | v, [] => v = -1
  | v, x :: l => v = nI x ∧ nm_C older (older x) l
theorem nm_C_keep {f h : Nat → Int32} : ∀ (l : List Nat) (v : Int32), (∀ x ∈ l, h x = f x) → nm_C f v l → nm_C h v l
  | [], _, _, hc => hc
  | x :: l, v, he, hc => ⟨hc.1, by rw [he x List.mem_cons_self]; exact nm_C_keep l _ (fun y hy => he y (List.mem_cons_of_mem _ hy)) hc.2⟩
theorem nm_gg (b : Nat) : nm_g (nm_g b) = nm_g b := by
  unfold nm_g
  by_cases h : 97 ≤ b ∧ b ≤ 122
  · rw [if_pos h, if_neg (by omega)]
  · rw [if_neg h, if_neg h]
theorem nm_h_eq {t u : Nat → Nat} : ∀ (n a b : Nat) (acc : Int32), (∀ k, k < n → nm_g (u (b + k)) = nm_g (t (a + k))) → nm_h u acc b n = nm_h t acc a n
  | 0, _, _, _, _ => rfl
  | n + 1, a, b, acc, h => by
    unfold nm_h
    rw [show nm_g (u b) = nm_g (t a) from h 0 (by omega)]
    exact nm_h_eq n (a + 1) (b + 1) _ (fun k hk => by
      have := h (k + 1) (by omega)
      rw [show b + (k + 1) = b + 1 + k by omega, show a + (k + 1) = a + 1 + k by omega] at this
      exact this)
theorem nm_b_eq {t u : Nat → Nat} {a e b f : Nat} (hl : f - b = e - a) (h : ∀ k, k < e - a → u (b + k) = nm_g (t (a + k))) : nm_b u b f = nm_b t a e := by
  unfold nm_b
  rw [hl, nm_h_eq (e - a) a b 0 (fun k hk => by rw [h k hk, nm_gg])]
/-- the whole table: names, and the chain of each bucket -/
def nm_I (σ : pm_S) (kN kl ks kh ko : Nat) (c : Nat) (st lt : Nat → Nat) : Prop := nm_S σ kN kl ks c st lt ∧ ∀ b, b < 1024 → ∃ l, nm_C (σ.2.2 ko) (σ.2.2 kh b) l ∧ (∀ x, x ∈ l ↔ (x < c ∧ nm_b lt (st x) (st (x + 1)) = nI b)) ∧ l.Pairwise (· > ·)
theorem nm_len : ∀ (l : List Nat) (c : Nat), l.Pairwise (· > ·) → (∀ x ∈ l, x < c) → l.length ≤ c
  | [], _, _, _ => Nat.zero_le _
  | x :: l, c, hp, hc => by
    have h1 := hc x List.mem_cons_self
    have h2 := nm_len l x (List.pairwise_cons.mp hp).2 (fun y hy => (List.pairwise_cons.mp hp).1 y hy)
    simp only [List.length_cons]
    omega
theorem d15_0 : decode prog_4_method_5_code 0 = .ok (.aload_n 1, 1) := by decide +kernel
theorem d15_1 : decode prog_4_method_5_code 1 = .ok (.iload_n 2, 1) := by decide +kernel
theorem d15_2 : decode prog_4_method_5_code 2 = .ok (.iload_n 3, 1) := by decide +kernel
theorem d15_3 : decode prog_4_method_5_code 3 = .ok (.invokestatic 67, 3) := by decide +kernel
theorem d15_6 : decode prog_4_method_5_code 6 = .ok (.istore 4, 2) := by decide +kernel
theorem d15_8 : decode prog_4_method_5_code 8 = .ok (.aload_n 0, 1) := by decide +kernel
theorem d15_9 : decode prog_4_method_5_code 9 = .ok (.getfield 21, 3) := by decide +kernel
theorem d15_12 : decode prog_4_method_5_code 12 = .ok (.iload 4, 2) := by decide +kernel
theorem d15_14 : decode prog_4_method_5_code 14 = .ok (.iaload, 1) := by decide +kernel
theorem d15_15 : decode prog_4_method_5_code 15 = .ok (.istore 5, 2) := by decide +kernel
theorem d15_17 : decode prog_4_method_5_code 17 = .ok (.aload_n 0, 1) := by decide +kernel
theorem d15_18 : decode prog_4_method_5_code 18 = .ok (.getfield 27, 3) := by decide +kernel
theorem d15_21 : decode prog_4_method_5_code 21 = .ok (.istore 6, 2) := by decide +kernel
theorem d15_23 : decode prog_4_method_5_code 23 = .ok (.iload 6, 2) := by decide +kernel
theorem d15_25 : decode prog_4_method_5_code 25 = .ok (.ifCond .le 47, 3) := by decide +kernel
theorem d15_28 : decode prog_4_method_5_code 28 = .ok (.iload 5, 2) := by decide +kernel
theorem d15_30 : decode prog_4_method_5_code 30 = .ok (.ifCond .lt 42, 3) := by decide +kernel
theorem d15_33 : decode prog_4_method_5_code 33 = .ok (.iload 5, 2) := by decide +kernel
theorem d15_35 : decode prog_4_method_5_code 35 = .ok (.aload_n 0, 1) := by decide +kernel
theorem d15_36 : decode prog_4_method_5_code 36 = .ok (.getfield 27, 3) := by decide +kernel
theorem d15_39 : decode prog_4_method_5_code 39 = .ok (.if_icmp .ge 33, 3) := by decide +kernel
theorem d15_42 : decode prog_4_method_5_code 42 = .ok (.aload_n 0, 1) := by decide +kernel
theorem d15_43 : decode prog_4_method_5_code 43 = .ok (.iload 5, 2) := by decide +kernel
theorem d15_45 : decode prog_4_method_5_code 45 = .ok (.aload_n 1, 1) := by decide +kernel
theorem d15_46 : decode prog_4_method_5_code 46 = .ok (.iload_n 2, 1) := by decide +kernel
theorem d15_47 : decode prog_4_method_5_code 47 = .ok (.iload_n 3, 1) := by decide +kernel
theorem d15_48 : decode prog_4_method_5_code 48 = .ok (.invokevirtual 76, 3) := by decide +kernel
theorem d15_51 : decode prog_4_method_5_code 51 = .ok (.ifCond .eq 6, 3) := by decide +kernel
theorem d15_54 : decode prog_4_method_5_code 54 = .ok (.iload 5, 2) := by decide +kernel
theorem d15_56 : decode prog_4_method_5_code 56 = .ok (.ireturn, 1) := by decide +kernel
theorem d15_57 : decode prog_4_method_5_code 57 = .ok (.aload_n 0, 1) := by decide +kernel
theorem d15_58 : decode prog_4_method_5_code 58 = .ok (.getfield 24, 3) := by decide +kernel
theorem d15_61 : decode prog_4_method_5_code 61 = .ok (.iload 5, 2) := by decide +kernel
theorem d15_63 : decode prog_4_method_5_code 63 = .ok (.iaload, 1) := by decide +kernel
theorem d15_64 : decode prog_4_method_5_code 64 = .ok (.istore 5, 2) := by decide +kernel
theorem d15_66 : decode prog_4_method_5_code 66 = .ok (.iinc 6 (-1), 3) := by decide +kernel
theorem d15_69 : decode prog_4_method_5_code 69 = .ok (.goto (-46), 3) := by decide +kernel
theorem d15_72 : decode prog_4_method_5_code 72 = .ok (.aload_n 0, 1) := by decide +kernel
theorem d15_73 : decode prog_4_method_5_code 73 = .ok (.iload 4, 2) := by decide +kernel
theorem d15_75 : decode prog_4_method_5_code 75 = .ok (.aload_n 1, 1) := by decide +kernel
theorem d15_76 : decode prog_4_method_5_code 76 = .ok (.iload_n 2, 1) := by decide +kernel
theorem d15_77 : decode prog_4_method_5_code 77 = .ok (.iload_n 3, 1) := by decide +kernel
theorem d15_78 : decode prog_4_method_5_code 78 = .ok (.invokevirtual 80, 3) := by decide +kernel
theorem d15_81 : decode prog_4_method_5_code 81 = .ok (.ireturn, 1) := by decide +kernel
theorem m15 : pm_m 15 = some (⟨"TypeRules$Names", "numberOf", "([CII)I"⟩, prog_4_method_5_code, 7, (some FieldType.int), 1, 3, 2) := rfl
theorem nm_nl {Y : pm_Y} {d : Nat} {σ : pm_S} {Q : Option Value → pm_S → Prop} {kN kl ks kh ko kt M a e c : Nat} {t st lt : Nat → Nat} {bk : Int32} (hL : nm_L Y kN kl ks kh ko) (hT : nm_T Y σ kt M t) (hS : nm_S σ kN kl ks c st lt) (hae : a ≤ e) (heM : e ≤ M) (h1 : ∀ i, i < c → nm_eq st lt t i a e → Q (some (.int (nI i))) σ) : ∀ (l : List Nat) (v : Int32) (n : Nat), nm_C (σ.2.2 ko) v l → l.length ≤ n → n ≤ c → (∀ x ∈ l, x < c) → ((∀ x ∈ l, ¬ nm_eq st lt t x a e) → ∀ v' n', pm_WP Y (pm_call Y (d + 2)) 1 prog_4_method_5_code (some .int) Q 72 [.ref kN, .ref kt, .int (nI a), .int (nI e), .int bk, .int v', .int n'] [] σ) → pm_WP Y (pm_call Y (d + 2)) 1 prog_4_method_5_code (some .int) Q 23 [.ref kN, .ref kt, .int (nI a), .int (nI e), .int bk, .int v, .int (nI n)] [] σ := by
  obtain ⟨l1, l2, l3, l4, l5⟩ := id hL
  obtain ⟨s1, s2, s3, s4, s5, s6⟩ := id hS
  intro l
  induction l with
  | nil =>
    intro v n hv hn hnc _ h2
    have hv : v = -1 := hv
    subst hv
    have h2 := h2 (fun x hx => absurd hx List.not_mem_nil)
    refine wq_l 25 d15_23 rfl rfl rfl rfl ?_
    refine wq_b 72 28 d15_25 rfl (by decide) rfl (fun c25 => ?_) (fun c25 => ?_)
    · -- pc 72
      exact h2 _ _
    · -- pc 28
      refine wq_l 30 d15_28 rfl rfl rfl rfl ?_
      refine wq_b 72 33 d15_30 rfl (by decide) rfl (fun c30 => ?_) (fun c30 => absurd (by decide) c30)
      exact h2 _ _
  | cons x l ih =>
    intro v n hv hn hnc hlt h2
    obtain ⟨rfl, hv⟩ := hv
    have hx := hlt x List.mem_cons_self
    simp only [List.length_cons] at hn
    have hgo : ¬ nm_eq st lt t x a e → pm_WP Y (pm_call Y (d + 2)) 1 prog_4_method_5_code (some .int) Q 57 [.ref kN, .ref kt, .int (nI a), .int (nI e), .int bk, .int (nI x), .int (nI n)] [] σ := by
      intro hq
      refine wq_l 58 d15_57 rfl rfl rfl rfl ?_
      refine wq_gr (ci := 1) (j := 3) (q := ko) 61 d15_58 rfl l1 rfl rfl ?_
      refine wq_l 63 d15_61 rfl rfl rfl rfl ?_
      refine wq_al 64 d15_63 rfl l5 rfl (vp_in_nI (by omega) (by decide)) ?_
      rw [nI_clamp (by omega)]
      refine wq_s 66 d15_64 rfl rfl (Nat.le_of_ble_eq_true rfl) rfl rfl ?_
      refine wq_i 69 d15_66 rfl rfl rfl ?_
      refine wq_g 23 d15_69 (by decide) ?_
      obtain ⟨n', rfl⟩ : ∃ n', n = n' + 1 := ⟨n - 1, by omega⟩
      rw [show nI (n' + 1) + Int32.ofInt (-1) = nI n' from pk_m1 n']
      refine ih _ n' hv (by omega) (by omega) (fun y hy => hlt y (List.mem_cons_of_mem _ hy)) (fun hall => h2 (fun y hy => ?_))
      rcases List.mem_cons.mp hy with rfl | hy
      · exact hq
      · exact hall y hy
    refine wq_l 25 d15_23 rfl rfl rfl rfl ?_
    refine wq_b 72 28 d15_25 rfl (by decide) rfl (fun c25 => absurd c25 (nI_nle (by omega) (by omega))) (fun c25 => ?_)
    refine wq_l 30 d15_28 rfl rfl rfl rfl ?_
    refine wq_b 72 33 d15_30 rfl (by decide) rfl (fun c30 => absurd c30 (nI_pos (by omega))) (fun c30 => ?_)
    refine wq_l 35 d15_33 rfl rfl rfl rfl ?_
    refine wq_l 36 d15_35 rfl rfl rfl rfl ?_
    refine wq_gi (ci := 1) (j := 4) 39 d15_36 rfl l1 rfl rfl ?_
    refine wq_b 72 42 d15_39 rfl (by decide) rfl (fun c39 => absurd c39 (by rw [s2]; exact Int32.not_le.mpr (nI_lt (by omega) (by omega)))) (fun c39 => ?_)
    refine wq_l 43 d15_42 rfl rfl rfl rfl ?_
    refine wq_l 45 d15_43 rfl rfl rfl rfl ?_
    refine wq_l 46 d15_45 rfl rfl rfl rfl ?_
    refine wq_l 47 d15_46 rfl rfl rfl rfl ?_
    refine wq_l 48 d15_47 rfl rfl rfl rfl ?_
    refine wq_v 51 [_, _, _, _] d15_48 rfl rfl m18 rfl l1 (Nat.le_of_ble_eq_true rfl) rfl (sp18 (d := d) hL hT hS hx hae heM (fun he => ?_) (fun he => ?_))
    · refine wq_b 57 54 d15_51 rfl (by decide) rfl (fun z => absurd z (by decide)) (fun _ => ?_)
      refine wq_l 56 d15_54 rfl rfl rfl rfl ?_
      exact wq_ri d15_56 rfl (h1 x hx he)
    · refine wq_b 57 54 d15_51 rfl (by decide) rfl (fun _ => hgo he) (fun z => absurd rfl z)
/-- numberOf: a name that is there, or one more -/
theorem sp15 {Y : pm_Y} {d : Nat} {σ : pm_S} {Q : Option Value → pm_S → Prop} {kN kl ks kh ko kt M a e c : Nat} {t st lt : Nat → Nat} (hL : nm_L Y kN kl ks kh ko) (hN : nm_D kl ks kh ko kt) (hT : nm_T Y σ kt M t) (hI : nm_I σ kN kl ks kh ko c st lt) (hae : a ≤ e) (heM : e ≤ M) (h1 : ∀ i, i < c → nm_eq st lt t i a e → Q (some (.int (nI i))) σ) (h2 : (∀ i, i < c → ¬ nm_eq st lt t i a e) → c < 4171 ∧ st c + (e - a) ≤ 8704 ∧ ∀ b, b < 1024 → nm_b t a e = nI b → Q (some (.int (nI c))) (nm_A σ kN kl ks kh ko t c (st c) a (e - a) b)) : pm_call Y (d + 3) 15 [.ref kN, .ref kt, .int (nI a), .int (nI e)] σ Q := by
  obtain ⟨l1, l2, l3, l4, l5⟩ := id hL
  obtain ⟨hS, hC⟩ := hI
  obtain ⟨s1, s2, s3, s4, s5, s6⟩ := id hS
  obtain ⟨b, hb, eb⟩ := nm_b_in t a e
  obtain ⟨l, c1, c2, c3⟩ := hC b hb
  refine wq_m m15 (Nat.le_of_ble_eq_true rfl) (by decide) rfl ?_
  refine wq_l 1 d15_0 rfl rfl rfl rfl ?_
  refine wq_l 2 d15_1 rfl rfl rfl rfl ?_
  refine wq_l 3 d15_2 rfl rfl rfl rfl ?_
  refine wq_vs 6 [_, _, _] d15_3 rfl rfl m16 rfl (Nat.le_of_ble_eq_true rfl) rfl (sp16 (d := d) hT hae heM ?_)
  rw [eb]
  refine wq_s 8 d15_6 rfl rfl (Nat.le_of_ble_eq_true rfl) rfl rfl ?_
  refine wq_l 9 d15_8 rfl rfl rfl rfl ?_
  refine wq_gr (ci := 1) (j := 2) (q := kh) 12 d15_9 rfl l1 rfl rfl ?_
  refine wq_l 14 d15_12 rfl rfl rfl rfl ?_
  refine wq_al 15 d15_14 rfl l4 rfl (vp_in_nI hb (by decide)) ?_
  rw [nI_clamp (by omega)]
  refine wq_s 17 d15_15 rfl rfl (Nat.le_of_ble_eq_true rfl) rfl rfl ?_
  refine wq_l 18 d15_17 rfl rfl rfl rfl ?_
  refine wq_gi (ci := 1) (j := 4) 21 d15_18 rfl l1 rfl rfl ?_
  rw [s2]
  refine wq_s 23 d15_21 rfl rfl (Nat.le_of_ble_eq_true rfl) rfl rfl ?_
  refine nm_nl (d := d) hL hT hS hae heM h1 l _ c c1 (nm_len l c c3 (fun x hx => ((c2 x).mp hx).1)) (Nat.le_refl _) (fun x hx => ((c2 x).mp hx).1) (fun hall v' n' => ?_)
  have hnone : ∀ i, i < c → ¬ nm_eq st lt t i a e := fun i hi he => hall i ((c2 i).mpr ⟨hi, by rw [← eb]; exact nm_b_eq he.1 he.2⟩) he
  obtain ⟨q1, q2, q3⟩ := h2 hnone
  refine wq_l 73 d15_72 rfl rfl rfl rfl ?_
  refine wq_l 75 d15_73 rfl rfl rfl rfl ?_
  refine wq_l 76 d15_75 rfl rfl rfl rfl ?_
  refine wq_l 77 d15_76 rfl rfl rfl rfl ?_
  refine wq_l 78 d15_77 rfl rfl rfl rfl ?_
  refine wq_v 81 [_, _, _, _] d15_78 rfl rfl m19 rfl l1 (Nat.le_of_ble_eq_true rfl) rfl (sp19 (d := d) hL hN hT hS q1 hb hae heM q2 ?_)
  exact wq_ri d15_81 rfl (q3 b hb eb)
/-- the table behind a new name -/
def nm_st (st : Nat → Nat) (c n : Nat) : Nat → Nat := fun i => if i = c + 1 then st c + n else st i
def nm_lt (st lt t : Nat → Nat) (c a : Nat) : Nat → Nat := fun j => if st c ≤ j then nm_g (t (a + (j - st c))) else lt j
theorem nm_b_lo {st lt t : Nat → Nat} {c a n i : Nat} (h : ∀ i, i < c → st i ≤ st (i + 1)) (hi : i < c) : nm_b (nm_lt st lt t c a) (nm_st st c n i) (nm_st st c n (i + 1)) = nm_b lt (st i) (st (i + 1)) := by
  have e1 : nm_st st c n i = st i := by unfold nm_st; rw [if_neg (by omega)]
  have e2 : nm_st st c n (i + 1) = st (i + 1) := by unfold nm_st; rw [if_neg (by omega)]
  rw [e1, e2]
  unfold nm_b
  rw [nm_h_eq (t := lt) _ (st i) (st i) 0 (fun k hk => ?_)]
  have := nm_mono h (i + 1) c (by omega) (Nat.le_refl _)
  have hlt : ¬ st c ≤ st i + k := by omega
  unfold nm_lt
  rw [if_neg hlt]
theorem nm_I_add {σ : pm_S} {kN kl ks kh ko kt M a e c b : Nat} {Y : pm_Y} {t st lt : Nat → Nat} (hN : nm_D kl ks kh ko kt) (hT : nm_T Y σ kt M t) (hI : nm_I σ kN kl ks kh ko c st lt) (hae : a ≤ e) (heM : e ≤ M) (hc : c < 4171) (hs : st c + (e - a) ≤ 8704) (hb : b < 1024) (eb : nm_b t a e = nI b) : nm_I (nm_A σ kN kl ks kh ko t c (st c) a (e - a) b) kN kl ks kh ko (c + 1) (nm_st st c (e - a)) (nm_lt st lt t c a) := by
  obtain ⟨hY, hM, hcc⟩ := hT
  obtain ⟨n1, n2, n3, n4, n5, n6, n7, n8, n9, n10⟩ := hN
  obtain ⟨⟨s1, s2, s3, s4, s5, s6⟩, hC⟩ := hI
  have ekl : (nm_A σ kN kl ks kh ko t c (st c) a (e - a) b).2.2 kl = nm_F σ kl t (st c) a (e - a) := by
    show (pm_pr (pm_pr (pm_pr (pm_pr σ kl _) ks _) ko _) kh _).2.2 kl = _
    rw [pm_rne n2, pm_rne n3, pm_rne n1, pm_r22]
  have eks : (nm_A σ kN kl ks kh ko t c (st c) a (e - a) b).2.2 ks = upd (σ.2.2 ks) (c + 1) (nI (st c + (e - a))) := by
    show (pm_pr (pm_pr (pm_pr (pm_pr σ kl _) ks _) ko _) kh _).2.2 ks = _
    rw [pm_rne n4, pm_rne n5, pm_r22]
  have eko : (nm_A σ kN kl ks kh ko t c (st c) a (e - a) b).2.2 ko = upd (σ.2.2 ko) c (σ.2.2 kh b) := by
    show (pm_pr (pm_pr (pm_pr (pm_pr σ kl _) ks _) ko _) kh _).2.2 ko = _
    rw [pm_rne (Ne.symm n6), pm_r22]
  have ekh : (nm_A σ kN kl ks kh ko t c (st c) a (e - a) b).2.2 kh = upd (σ.2.2 kh) b (nI c) := pm_r22
  have hmono := nm_mono s4
  refine ⟨⟨by omega, pm_r1, fun i hi => ?_, fun i hi => ?_, fun i hi => ?_, fun i hi => ?_⟩, fun b' hb' => ?_⟩
  · rw [eks]
    unfold nm_st
    by_cases h : i = c + 1
    · subst h; rw [pk_us, if_pos rfl]
    · rw [pk_un h, if_neg h]; exact s3 i (by omega)
  · unfold nm_st
    by_cases h : i = c
    · subst h; rw [if_neg (by omega), if_pos rfl]; omega
    · rw [if_neg (by omega), if_neg (by omega)]; exact s4 i (by omega)
  · unfold nm_st
    by_cases h : i = c + 1
    · rw [if_pos h]; exact hs
    · rw [if_neg h]; exact s5 i (by omega)
  · have hi : i < st c + (e - a) := by
      unfold nm_st at hi
      rw [if_pos rfl] at hi
      exact hi
    rw [ekl]
    unfold nm_F nm_lt
    by_cases h : st c ≤ i
    · rw [if_pos ⟨h, hi⟩, if_pos h]
      exact ⟨rfl, nm_g_lt (hcc _ (by omega)).2⟩
    · rw [if_neg (fun q => h q.1), if_neg h]
      exact s6 i (by omega)
  · obtain ⟨l, c1, c2, c3⟩ := hC b' hb'
    have hnew : nm_b (nm_lt st lt t c a) (nm_st st c (e - a) c) (nm_st st c (e - a) (c + 1)) = nI b := by
      have e0 : nm_st st c (e - a) c = st c := by unfold nm_st; rw [if_neg (by omega)]
      have e1 : nm_st st c (e - a) (c + 1) = st c + (e - a) := by unfold nm_st; rw [if_pos rfl]
      rw [← eb, e0, e1]
      refine nm_b_eq (by omega) (fun k hk => ?_)
      unfold nm_lt
      rw [if_pos (by omega), show st c + k - st c = k by omega]
    rw [eko, ekh]
    have hlc : ∀ x ∈ l, x < c := fun x hx => ((c2 x).mp hx).1
    have hk : nm_C (upd (σ.2.2 ko) c (σ.2.2 kh b)) (σ.2.2 kh b') l := nm_C_keep l _ (fun x hx => pk_un (by have := hlc x hx; omega)) c1
    by_cases hbb : b' = b
    · subst hbb
      refine ⟨c :: l, ⟨by rw [pk_us], by rw [pk_us]; exact hk⟩, fun x => ?_, List.pairwise_cons.mpr ⟨fun y hy => hlc y hy, c3⟩⟩
      constructor
      · intro hx
        rcases List.mem_cons.mp hx with rfl | hx
        · exact ⟨by omega, hnew⟩
        · exact ⟨by have := hlc x hx; omega, by rw [nm_b_lo s4 (hlc x hx)]; exact ((c2 x).mp hx).2⟩
      · intro ⟨hx1, hx2⟩
        by_cases hxc : x = c
        · subst hxc; exact List.mem_cons_self
        · refine List.mem_cons_of_mem _ ((c2 x).mpr ⟨by omega, ?_⟩)
          rw [nm_b_lo s4 (by omega)] at hx2
          exact hx2
    · refine ⟨l, by rw [pk_un hbb]; exact hk, fun x => ?_, c3⟩
      constructor
      · intro hx
        exact ⟨by have := hlc x hx; omega, by rw [nm_b_lo s4 (hlc x hx)]; exact ((c2 x).mp hx).2⟩
      · intro ⟨hx1, hx2⟩
        by_cases hxc : x = c
        · subst hxc
          rw [hnew] at hx2
          exact absurd ((nI_eq (by omega) (by omega)).mp hx2).symm hbb
        · refine (c2 x).mpr ⟨by omega, ?_⟩
          rw [nm_b_lo s4 (by omega)] at hx2
          exact hx2
