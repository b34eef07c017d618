/-! NAMES: a name is added -/
theorem pm_rne {σ : pm_S} {a q : Nat} {f : Nat → Int32} (h : a ≠ q) : (pm_pr σ q f).2.2 a = σ.2.2 a := by simp [pm_pr, h]
theorem pm_r1r {σ : pm_S} {q : Nat} {f : Nat → Int32} : (pm_pr σ q f).1 = σ.1 := rfl
/-- the letters with the first k of the new name behind the st c that are there -/
def nm_F (σ : pm_S) (kl : Nat) (t : Nat → Nat) (s a k : Nat) : Nat → Int32 := fun j => if s ≤ j ∧ j < s + k then nI (nm_g (t (a + (j - s)))) else σ.2.2 kl j
theorem nm_F0 {σ : pm_S} {kl : Nat} {t : Nat → Nat} {s a : Nat} : nm_F σ kl t s a 0 = σ.2.2 kl := by
  funext j
  unfold nm_F
  rw [if_neg (by omega)]
theorem nm_Fs {σ : pm_S} {kl : Nat} {t : Nat → Nat} {s a k : Nat} : upd (nm_F σ kl t s a k) (s + k) (nI (nm_g (t (a + k)))) = nm_F σ kl t s a (k + 1) := by
  funext j
  by_cases h : j = s + k
  · subst h
    rw [pk_us]
    unfold nm_F
    rw [if_pos (by omega), show s + k - s = k by omega]
  · rw [pk_un h]
    unfold nm_F
    by_cases h2 : s ≤ j ∧ j < s + k
    · rw [if_pos h2, if_pos (by omega)]
    · rw [if_neg h2, if_neg (by omega)]
/-- the table with one name more, in the bucket b -/
def nm_A (σ : pm_S) (kN kl ks kh ko : Nat) (t : Nat → Nat) (c s a n b : Nat) : pm_S := pm_pi (pm_pr (pm_pr (pm_pr (pm_pr σ kl (nm_F σ kl t s a n)) ks (upd (σ.2.2 ks) (c + 1) (nI (s + n)))) ko (upd (σ.2.2 ko) c (σ.2.2 kh b))) kh (upd (σ.2.2 kh) b (nI c))) kN 4 (nI (c + 1))
def nm_D (kl ks kh ko kt : Nat) : Prop := kl ≠ ks ∧ kl ≠ kh ∧ kl ≠ ko ∧ ks ≠ kh ∧ ks ≠ ko ∧ kh ≠ ko ∧ kt ≠ kl ∧ kt ≠ ks ∧ kt ≠ kh ∧ kt ≠ ko
theorem d19_0 : decode prog_4_method_6_code 0 = .ok (.aload_n 0, 1) := by decide +kernel
theorem d19_1 : decode prog_4_method_6_code 1 = .ok (.getfield 17, 3) := by decide +kernel
theorem d19_4 : decode prog_4_method_6_code 4 = .ok (.aload_n 0, 1) := by decide +kernel
theorem d19_5 : decode prog_4_method_6_code 5 = .ok (.getfield 27, 3) := by decide +kernel
theorem d19_8 : decode prog_4_method_6_code 8 = .ok (.sipush 4171, 3) := by decide +kernel
theorem d19_11 : decode prog_4_method_6_code 11 = .ok (.invokestatic 70, 3) := by decide +kernel
theorem d19_14 : decode prog_4_method_6_code 14 = .ok (.iaload, 1) := by decide +kernel
theorem d19_15 : decode prog_4_method_6_code 15 = .ok (.istore 5, 2) := by decide +kernel
theorem d19_17 : decode prog_4_method_6_code 17 = .ok (.aload_n 0, 1) := by decide +kernel
theorem d19_18 : decode prog_4_method_6_code 18 = .ok (.getfield 27, 3) := by decide +kernel
theorem d19_21 : decode prog_4_method_6_code 21 = .ok (.sipush 4171, 3) := by decide +kernel
theorem d19_24 : decode prog_4_method_6_code 24 = .ok (.if_icmp .ge 18, 3) := by decide +kernel
theorem d19_27 : decode prog_4_method_6_code 27 = .ok (.iload 5, 2) := by decide +kernel
theorem d19_29 : decode prog_4_method_6_code 29 = .ok (.iload 4, 2) := by decide +kernel
theorem d19_31 : decode prog_4_method_6_code 31 = .ok (.iadd, 1) := by decide +kernel
theorem d19_32 : decode prog_4_method_6_code 32 = .ok (.iload_n 3, 1) := by decide +kernel
theorem d19_33 : decode prog_4_method_6_code 33 = .ok (.isub, 1) := by decide +kernel
theorem d19_34 : decode prog_4_method_6_code 34 = .ok (.aload_n 0, 1) := by decide +kernel
theorem d19_35 : decode prog_4_method_6_code 35 = .ok (.getfield 13, 3) := by decide +kernel
theorem d19_38 : decode prog_4_method_6_code 38 = .ok (.arraylength, 1) := by decide +kernel
theorem d19_39 : decode prog_4_method_6_code 39 = .ok (.if_icmp .le 5, 3) := by decide +kernel
theorem d19_42 : decode prog_4_method_6_code 42 = .ok (.iconst (-1), 1) := by decide +kernel
theorem d19_43 : decode prog_4_method_6_code 43 = .ok (.ireturn, 1) := by decide +kernel
theorem d19_44 : decode prog_4_method_6_code 44 = .ok (.iload_n 3, 1) := by decide +kernel
theorem d19_45 : decode prog_4_method_6_code 45 = .ok (.istore 6, 2) := by decide +kernel
theorem d19_47 : decode prog_4_method_6_code 47 = .ok (.iload 6, 2) := by decide +kernel
theorem d19_49 : decode prog_4_method_6_code 49 = .ok (.iload 4, 2) := by decide +kernel
theorem d19_51 : decode prog_4_method_6_code 51 = .ok (.if_icmp .ge 28, 3) := by decide +kernel
theorem d19_54 : decode prog_4_method_6_code 54 = .ok (.aload_n 0, 1) := by decide +kernel
theorem d19_55 : decode prog_4_method_6_code 55 = .ok (.getfield 13, 3) := by decide +kernel
theorem d19_58 : decode prog_4_method_6_code 58 = .ok (.iload 5, 2) := by decide +kernel
theorem d19_60 : decode prog_4_method_6_code 60 = .ok (.iload 6, 2) := by decide +kernel
theorem d19_62 : decode prog_4_method_6_code 62 = .ok (.iadd, 1) := by decide +kernel
theorem d19_63 : decode prog_4_method_6_code 63 = .ok (.iload_n 3, 1) := by decide +kernel
theorem d19_64 : decode prog_4_method_6_code 64 = .ok (.isub, 1) := by decide +kernel
theorem d19_65 : decode prog_4_method_6_code 65 = .ok (.aload_n 2, 1) := by decide +kernel
theorem d19_66 : decode prog_4_method_6_code 66 = .ok (.iload 6, 2) := by decide +kernel
theorem d19_68 : decode prog_4_method_6_code 68 = .ok (.caload, 1) := by decide +kernel
theorem d19_69 : decode prog_4_method_6_code 69 = .ok (.invokestatic 84, 3) := by decide +kernel
theorem d19_72 : decode prog_4_method_6_code 72 = .ok (.castore, 1) := by decide +kernel
theorem d19_73 : decode prog_4_method_6_code 73 = .ok (.iinc 6 1, 3) := by decide +kernel
theorem d19_76 : decode prog_4_method_6_code 76 = .ok (.goto (-29), 3) := by decide +kernel
theorem d19_79 : decode prog_4_method_6_code 79 = .ok (.aload_n 0, 1) := by decide +kernel
theorem d19_80 : decode prog_4_method_6_code 80 = .ok (.getfield 17, 3) := by decide +kernel
theorem d19_83 : decode prog_4_method_6_code 83 = .ok (.aload_n 0, 1) := by decide +kernel
theorem d19_84 : decode prog_4_method_6_code 84 = .ok (.getfield 27, 3) := by decide +kernel
theorem d19_87 : decode prog_4_method_6_code 87 = .ok (.iconst 1, 1) := by decide +kernel
theorem d19_88 : decode prog_4_method_6_code 88 = .ok (.iadd, 1) := by decide +kernel
theorem d19_89 : decode prog_4_method_6_code 89 = .ok (.iload 5, 2) := by decide +kernel
theorem d19_91 : decode prog_4_method_6_code 91 = .ok (.iload 4, 2) := by decide +kernel
theorem d19_93 : decode prog_4_method_6_code 93 = .ok (.iadd, 1) := by decide +kernel
theorem d19_94 : decode prog_4_method_6_code 94 = .ok (.iload_n 3, 1) := by decide +kernel
theorem d19_95 : decode prog_4_method_6_code 95 = .ok (.isub, 1) := by decide +kernel
theorem d19_96 : decode prog_4_method_6_code 96 = .ok (.iastore, 1) := by decide +kernel
theorem d19_97 : decode prog_4_method_6_code 97 = .ok (.aload_n 0, 1) := by decide +kernel
theorem d19_98 : decode prog_4_method_6_code 98 = .ok (.getfield 24, 3) := by decide +kernel
theorem d19_101 : decode prog_4_method_6_code 101 = .ok (.aload_n 0, 1) := by decide +kernel
theorem d19_102 : decode prog_4_method_6_code 102 = .ok (.getfield 27, 3) := by decide +kernel
theorem d19_105 : decode prog_4_method_6_code 105 = .ok (.aload_n 0, 1) := by decide +kernel
theorem d19_106 : decode prog_4_method_6_code 106 = .ok (.getfield 21, 3) := by decide +kernel
theorem d19_109 : decode prog_4_method_6_code 109 = .ok (.iload_n 1, 1) := by decide +kernel
theorem d19_110 : decode prog_4_method_6_code 110 = .ok (.iaload, 1) := by decide +kernel
theorem d19_111 : decode prog_4_method_6_code 111 = .ok (.iastore, 1) := by decide +kernel
theorem d19_112 : decode prog_4_method_6_code 112 = .ok (.aload_n 0, 1) := by decide +kernel
theorem d19_113 : decode prog_4_method_6_code 113 = .ok (.getfield 21, 3) := by decide +kernel
theorem d19_116 : decode prog_4_method_6_code 116 = .ok (.iload_n 1, 1) := by decide +kernel
theorem d19_117 : decode prog_4_method_6_code 117 = .ok (.aload_n 0, 1) := by decide +kernel
theorem d19_118 : decode prog_4_method_6_code 118 = .ok (.getfield 27, 3) := by decide +kernel
theorem d19_121 : decode prog_4_method_6_code 121 = .ok (.iastore, 1) := by decide +kernel
theorem d19_122 : decode prog_4_method_6_code 122 = .ok (.aload_n 0, 1) := by decide +kernel
theorem d19_123 : decode prog_4_method_6_code 123 = .ok (.dup, 1) := by decide +kernel
theorem d19_124 : decode prog_4_method_6_code 124 = .ok (.getfield 27, 3) := by decide +kernel
theorem d19_127 : decode prog_4_method_6_code 127 = .ok (.iconst 1, 1) := by decide +kernel
theorem d19_128 : decode prog_4_method_6_code 128 = .ok (.iadd, 1) := by decide +kernel
theorem d19_129 : decode prog_4_method_6_code 129 = .ok (.putfield 27, 3) := by decide +kernel
theorem d19_132 : decode prog_4_method_6_code 132 = .ok (.aload_n 0, 1) := by decide +kernel
theorem d19_133 : decode prog_4_method_6_code 133 = .ok (.getfield 27, 3) := by decide +kernel
theorem d19_136 : decode prog_4_method_6_code 136 = .ok (.iconst 1, 1) := by decide +kernel
theorem d19_137 : decode prog_4_method_6_code 137 = .ok (.isub, 1) := by decide +kernel
theorem d19_138 : decode prog_4_method_6_code 138 = .ok (.ireturn, 1) := by decide +kernel
theorem m19 : pm_m 19 = some (⟨"TypeRules$Names", "add", "(I[CII)I"⟩, prog_4_method_6_code, 7, (some FieldType.int), 1, 4, 2) := rfl
theorem nm_al {Y : pm_Y} {d : Nat} {σ : pm_S} {Q : Option Value → pm_S → Prop} {kN kl ks kh ko kt M a e s b : Nat} {t : Nat → Nat} (hL : nm_L Y kN kl ks kh ko) (hN : nm_D kl ks kh ko kt) (hT : nm_T Y σ kt M t) (hae : a ≤ e) (heM : e ≤ M) (hs : s + (e - a) ≤ 8704) (h : pm_WP Y (pm_call Y (d + 1)) 1 prog_4_method_6_code (some .int) Q 79 [.ref kN, .int (nI b), .ref kt, .int (nI a), .int (nI e), .int (nI s), .int (nI e)] [] (pm_pr σ kl (nm_F σ kl t s a (e - a)))) : ∀ (n j : Nat), j + n = e → a ≤ j → pm_WP Y (pm_call Y (d + 1)) 1 prog_4_method_6_code (some .int) Q 47 [.ref kN, .int (nI b), .ref kt, .int (nI a), .int (nI e), .int (nI s), .int (nI j)] [] (pm_pr σ kl (nm_F σ kl t s a (j - a))) := by
  obtain ⟨hY, hM, hc⟩ := hT
  obtain ⟨l1, l2, l3, l4, l5⟩ := hL
  obtain ⟨n1, n2, n3, n4, n5, n6, n7, n8, n9, n10⟩ := hN
  intro n
  induction n with
  | zero =>
    intro j hj haj
    have : j = e := by omega
    subst this
    refine wq_l 49 d19_47 rfl rfl rfl rfl ?_
    refine wq_l 51 d19_49 rfl rfl rfl rfl ?_
    refine wq_b 79 54 d19_51 rfl (by decide) rfl (fun c51 => ?_) (fun c51 => absurd (nI_le (by omega) (by omega)) c51)
    exact h
  | succ n ih =>
    intro j hj haj
    have ej : nI s + nI j - nI a = nI (s + (j - a)) := by rw [nI_add, pk_sub (by omega)]; congr 1; omega
    have hin1 : vp_in (nI (s + (j - a))) 8704 := vp_in_nI (by omega) (by decide)
    have hin2 : vp_in (nI j) M := vp_in_nI (by omega) (by omega)
    have hc1 := hc j (by omega)
    refine wq_l 49 d19_47 rfl rfl rfl rfl ?_
    refine wq_l 51 d19_49 rfl rfl rfl rfl ?_
    refine wq_b 79 54 d19_51 rfl (by decide) rfl (fun c51 => absurd c51 (nI_ge (by omega) (by omega))) (fun c51 => ?_)
    refine wq_l 55 d19_54 rfl rfl rfl rfl ?_
    refine wq_gr (ci := 1) (j := 0) (q := kl) 58 d19_55 rfl l1 rfl rfl ?_
    refine wq_l 60 d19_58 rfl rfl rfl rfl ?_
    refine wq_l 62 d19_60 rfl rfl rfl rfl ?_
    refine wq_a 63 d19_62 rfl rfl ?_
    refine wq_l 64 d19_63 rfl rfl rfl rfl ?_
    refine wq_a 65 d19_64 rfl rfl ?_
    refine wq_l 66 d19_65 rfl rfl rfl rfl ?_
    refine wq_l 68 d19_66 rfl rfl rfl rfl ?_
    refine wq_al 69 d19_68 rfl hY rfl (hin2) ?_
    rw [pm_rne n7, nI_clamp (by omega), hc1.1, ej]
    refine wq_vs 72 [_] d19_69 rfl rfl m17 rfl (Nat.le_of_ble_eq_true rfl) rfl (sp17 hc1.2 ?_)
    refine wq_as 73 d19_72 rfl l2 rfl hin1 ?_
    refine wq_i 76 d19_73 rfl rfl rfl ?_
    refine wq_g 47 d19_76 (by decide) ?_
    rw [show nI j + Int32.ofInt 1 = nI (j + 1) from (nI_succ j).symm, pm_pr_pr, pm_r22, nI_clamp (by omega)]
    have hg := nm_g_lt hc1.2
    rw [show pm_nr 1 (nI (nm_g (t j))) = nI (nm_g (t j)) from by
      have q := (pk_charN hg).1
      show vp_nar .char _ = _
      unfold vp_nar
      rw [q]]
    have := ih (j + 1) (by omega) (by omega)
    rw [show j + 1 - a = (j - a) + 1 by omega, ← nm_Fs, show a + (j - a) = j by omega] at this
    exact this
theorem sp19 {Y : pm_Y} {d : Nat} {σ : pm_S} {Q : Option Value → pm_S → Prop} {kN kl ks kh ko kt M a e c b : Nat} {t st lt : Nat → Nat} (hL : nm_L Y kN kl ks kh ko) (hN : nm_D kl ks kh ko kt) (hT : nm_T Y σ kt M t) (hS : nm_S σ kN kl ks c st lt) (hc4 : c < 4171) (hb : b < 1024) (hae : a ≤ e) (heM : e ≤ M) (hs : st c + (e - a) ≤ 8704) (hQ : Q (some (.int (nI c))) (nm_A σ kN kl ks kh ko t c (st c) a (e - a) b)) : pm_call Y (d + 2) 19 [.ref kN, .int (nI b), .ref kt, .int (nI a), .int (nI e)] σ Q := by
  have hT' := hT
  obtain ⟨hY, hM, hc⟩ := hT'
  obtain ⟨l1, l2, l3, l4, l5⟩ := id hL
  obtain ⟨n1, n2, n3, n4, n5, n6, n7, n8, n9, n10⟩ := id hN
  obtain ⟨s1, s2, s3, s4, s5, s6⟩ := hS
  refine wq_m m19 (Nat.le_of_ble_eq_true rfl) (by decide) rfl ?_
  refine wq_l 1 d19_0 rfl rfl rfl rfl ?_
  refine wq_gr (ci := 1) (j := 1) (q := ks) 4 d19_1 rfl l1 rfl rfl ?_
  refine wq_l 5 d19_4 rfl rfl rfl rfl ?_
  refine wq_gi (ci := 1) (j := 4) 8 d19_5 rfl l1 rfl rfl ?_
  refine wq_k 11 4171 d19_8 (by decide) rfl ?_
  refine wq_mn 14 d19_11 rfl (Nat.le_of_ble_eq_true rfl) rfl ?_
  rw [s2, if_neg (show ¬ (4171 : Int32) < nI c from nI_nlt (a := 4171) (b := c) (by omega) (by decide))]
  refine wq_al 15 d19_14 rfl l3 rfl (vp_in_nI (by omega) (by decide)) ?_
  rw [nI_clamp (by omega), s3 c (Nat.le_refl _)]
  refine wq_s 17 d19_15 rfl rfl (Nat.le_of_ble_eq_true rfl) rfl rfl ?_
  refine wq_l 18 d19_17 rfl rfl rfl rfl ?_
  refine wq_gi (ci := 1) (j := 4) 21 d19_18 rfl l1 rfl rfl ?_
  refine wq_k 24 4171 d19_21 (by decide) rfl ?_
  refine wq_b 42 27 d19_24 rfl (by decide) rfl (fun c24 => absurd c24 ?_) (fun _ => ?_)
  · rw [s2]; exact nI_ge (b := 4171) hc4 (by decide)
  refine wq_l 29 d19_27 rfl rfl rfl rfl ?_
  refine wq_l 31 d19_29 rfl rfl rfl rfl ?_
  refine wq_a 32 d19_31 rfl rfl ?_
  refine wq_l 33 d19_32 rfl rfl rfl rfl ?_
  refine wq_a 34 d19_33 rfl rfl ?_
  rw [show nI (st c) + nI e - nI a = nI (st c + (e - a)) by rw [nI_add, pk_sub (by omega)]; congr 1; omega]
  refine wq_l 35 d19_34 rfl rfl rfl rfl ?_
  refine wq_gr (ci := 1) (j := 0) (q := kl) 38 d19_35 rfl l1 rfl rfl ?_
  refine wq_len 39 d19_38 l2 rfl rfl ?_
  refine wq_b 44 42 d19_39 rfl (by decide) rfl (fun _ => ?_) (fun c39 => absurd (nI_le (b := 8704) hs (by decide)) c39)
  refine wq_l 45 d19_44 rfl rfl rfl rfl ?_
  refine wq_s 47 d19_45 rfl rfl (Nat.le_of_ble_eq_true rfl) rfl rfl ?_
  have hloop := nm_al (b := b) (d := d) (Q := Q) hL hN hT hae heM hs ?_ (e - a) a (by omega) (Nat.le_refl _)
  · rw [Nat.sub_self, nm_F0, show pm_pr σ kl (σ.2.2 kl) = σ from by
      unfold pm_pr
      have : (fun a => if a = kl then σ.2.2 kl else σ.2.2 a) = σ.2.2 := by funext q; by_cases h : q = kl <;> simp [h]
      rw [this]] at hloop
    exact hloop
  generalize hσ1 : pm_pr σ kl (nm_F σ kl t (st c) a (e - a)) = σ1
  have r1 : σ1.1 kN 4 = nI c := by rw [← hσ1]; exact s2
  have r2 : ∀ q, q ≠ kl → σ1.2.2 q = σ.2.2 q := fun q hq => by rw [← hσ1]; exact pm_rne hq
  refine wq_l 80 d19_79 rfl rfl rfl rfl ?_
  refine wq_gr (ci := 1) (j := 1) (q := ks) 83 d19_80 rfl l1 rfl rfl ?_
  refine wq_l 84 d19_83 rfl rfl rfl rfl ?_
  refine wq_gi (ci := 1) (j := 4) 87 d19_84 rfl l1 rfl rfl ?_
  refine wq_k 88 1 d19_87 (by decide) rfl ?_
  refine wq_a 89 d19_88 rfl rfl ?_
  refine wq_l 91 d19_89 rfl rfl rfl rfl ?_
  refine wq_l 93 d19_91 rfl rfl rfl rfl ?_
  refine wq_a 94 d19_93 rfl rfl ?_
  refine wq_l 95 d19_94 rfl rfl rfl rfl ?_
  refine wq_a 96 d19_95 rfl rfl ?_
  rw [r1, nI_1, show nI (st c) + nI e - nI a = nI (st c + (e - a)) by rw [nI_add, pk_sub (by omega)]; congr 1; omega]
  refine wq_as 97 d19_96 rfl l3 rfl (vp_in_nI (by omega) (by decide)) ?_
  refine wq_l 98 d19_97 rfl rfl rfl rfl ?_
  refine wq_gr (ci := 1) (j := 3) (q := ko) 101 d19_98 rfl l1 rfl rfl ?_
  refine wq_l 102 d19_101 rfl rfl rfl rfl ?_
  refine wq_gi (ci := 1) (j := 4) 105 d19_102 rfl l1 rfl rfl ?_
  refine wq_l 106 d19_105 rfl rfl rfl rfl ?_
  refine wq_gr (ci := 1) (j := 2) (q := kh) 109 d19_106 rfl l1 rfl rfl ?_
  refine wq_l 110 d19_109 rfl rfl rfl rfl ?_
  refine wq_al 111 d19_110 rfl l4 rfl (vp_in_nI hb (by decide)) ?_
  rw [pm_r1r, r1, nI_clamp (by omega), nI_clamp (by omega)]
  refine wq_as 112 d19_111 rfl l5 rfl (vp_in_nI (by omega) (by decide)) ?_
  refine wq_l 113 d19_112 rfl rfl rfl rfl ?_
  refine wq_gr (ci := 1) (j := 2) (q := kh) 116 d19_113 rfl l1 rfl rfl ?_
  refine wq_l 117 d19_116 rfl rfl rfl rfl ?_
  refine wq_l 118 d19_117 rfl rfl rfl rfl ?_
  refine wq_gi (ci := 1) (j := 4) 121 d19_118 rfl l1 rfl rfl ?_
  rw [pm_r1r, pm_r1r, r1]
  refine wq_as 122 d19_121 rfl l4 rfl (vp_in_nI hb (by decide)) ?_
  refine wq_l 123 d19_122 rfl rfl rfl rfl ?_
  refine wq_a 124 d19_123 rfl rfl ?_
  refine wq_gi (ci := 1) (j := 4) 127 d19_124 rfl l1 rfl rfl ?_
  refine wq_k 128 1 d19_127 (by decide) rfl ?_
  refine wq_a 129 d19_128 rfl rfl ?_
  rw [pm_r1r, pm_r1r, pm_r1r, r1, nI_1]
  refine wq_pf (ci := 1) (j := 4) 132 d19_129 rfl l1 rfl ⟨rfl, rfl⟩ rfl ?_
  refine wq_l 133 d19_132 rfl rfl rfl rfl ?_
  refine wq_gi (ci := 1) (j := 4) 136 d19_133 rfl l1 rfl rfl ?_
  refine wq_k 137 1 d19_136 (by decide) rfl ?_
  refine wq_a 138 d19_137 rfl rfl ?_
  rw [pm_r1, nI_pred]
  refine wq_ri d19_138 rfl ?_
  simp only [show ∀ x : Int32, pm_nr 0 x = x from fun _ => rfl, pm_rne (Ne.symm n5), pm_rne (Ne.symm n4), pm_rne n6, r2 ks (Ne.symm n1), r2 ko (Ne.symm n3), r2 kh (Ne.symm n2), nI_clamp (show c < 2 ^ 31 by omega), nI_clamp (show b < 2 ^ 31 by omega)]
  rw [← hσ1]
  exact hQ
