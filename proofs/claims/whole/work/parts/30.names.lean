/-! NAMES: the table of names, in any layout -/
def nm_g (b : Nat) : Nat := if 97 ≤ b ∧ b ≤ 122 then b - 32 else b
theorem nm_g_lt {b : Nat} (h : b < 65536) : nm_g b < 65536 := by unfold nm_g; split <;> omega
/-- the hash, from a letter on -/
def nm_h (t : Nat → Nat) : Int32 → Nat → Nat → Int32
  | acc, _, 0 => acc
  | acc, a, n + 1 => nm_h t (acc * 31 + nI (nm_g (t a))) (a + 1) n
def nm_b (t : Nat → Nat) (a e : Nat) : Int32 := nm_h t 0 a (e - a) &&& 1023
theorem nm_b_in (t : Nat → Nat) (a e : Nat) : ∃ j, j < 1024 ∧ nm_b t a e = nI j := pk_andE _ (m := 1023) 10 rfl
/-- an array of chars at a place -/
def nm_T (Y : pm_Y) (σ : pm_S) (k M : Nat) (t : Nat → Nat) : Prop := Y[k]? = some (.inl (1, M)) ∧ M < 2 ^ 30 ∧ ∀ i, i < M → σ.2.2 k i = nI (t i) ∧ t i < 65536
theorem d17_0 : decode prog_4_method_9_code 0 = .ok (.iload_n 0, 1) := by decide +kernel
theorem d17_1 : decode prog_4_method_9_code 1 = .ok (.bipush 97, 2) := by decide +kernel
theorem d17_3 : decode prog_4_method_9_code 3 = .ok (.if_icmp .lt 20, 3) := by decide +kernel
theorem d17_6 : decode prog_4_method_9_code 6 = .ok (.iload_n 0, 1) := by decide +kernel
theorem d17_7 : decode prog_4_method_9_code 7 = .ok (.bipush 122, 2) := by decide +kernel
theorem d17_9 : decode prog_4_method_9_code 9 = .ok (.if_icmp .gt 14, 3) := by decide +kernel
theorem d17_12 : decode prog_4_method_9_code 12 = .ok (.iload_n 0, 1) := by decide +kernel
theorem d17_13 : decode prog_4_method_9_code 13 = .ok (.bipush 97, 2) := by decide +kernel
theorem d17_15 : decode prog_4_method_9_code 15 = .ok (.isub, 1) := by decide +kernel
theorem d17_16 : decode prog_4_method_9_code 16 = .ok (.bipush 65, 2) := by decide +kernel
theorem d17_18 : decode prog_4_method_9_code 18 = .ok (.iadd, 1) := by decide +kernel
theorem d17_19 : decode prog_4_method_9_code 19 = .ok (.i2c, 1) := by decide +kernel
theorem d17_20 : decode prog_4_method_9_code 20 = .ok (.goto 4, 3) := by decide +kernel
theorem d17_23 : decode prog_4_method_9_code 23 = .ok (.iload_n 0, 1) := by decide +kernel
theorem d17_24 : decode prog_4_method_9_code 24 = .ok (.ireturn, 1) := by decide +kernel
theorem m17 : pm_m 17 = some (⟨"TypeRules$Names", "great", "(C)C"⟩, prog_4_method_9_code, 1, (some FieldType.char), 1, 1, 0) := rfl
theorem sp17 {Y : pm_Y} {d : Nat} {σ : pm_S} {Q : Option Value → pm_S → Prop} {b : Nat} (hb : b < 65536) (hQ : Q (some (.int (nI (nm_g b)))) σ) : pm_call Y (d + 1) 17 [.int (nI b)] σ Q := by
  refine wq_m m17 (Nat.le_of_ble_eq_true rfl) (by decide) rfl ?_
  refine wq_l 1 d17_0 rfl rfl rfl rfl ?_
  refine wq_k 3 97 d17_1 (by decide) rfl ?_
  refine wq_b 23 6 d17_3 rfl (by decide) rfl (fun c3 => ?_) (fun c3 => ?_)
  · -- pc 23
    refine wq_l 24 d17_23 rfl rfl rfl rfl ?_
    have e2 : nm_g b = b := by
      unfold nm_g
      rw [if_neg]
      intro h
      first
        | exact absurd c3 (nI_nlt (a := b) (b := 97) h.1 (by omega))
        | exact absurd c9 (nI_nlt (a := 122) (b := b) h.2 (by decide))
    rw [e2] at hQ
    exact wq_ri d17_24 (pk_charN hb).1 hQ
  · -- pc 6
    refine wq_l 7 d17_6 rfl rfl rfl rfl ?_
    refine wq_k 9 122 d17_7 (by decide) rfl ?_
    refine wq_b 23 12 d17_9 rfl (by decide) rfl (fun c9 => ?_) (fun c9 => ?_)
    · -- pc 23
      refine wq_l 24 d17_23 rfl rfl rfl rfl ?_
      have e2 : nm_g b = b := by
        unfold nm_g
        rw [if_neg]
        intro h
        first
          | exact absurd c3 (nI_nlt (a := b) (b := 97) h.1 (by omega))
          | exact absurd c9 (nI_nlt (a := 122) (b := b) h.2 (by decide))
      rw [e2] at hQ
      exact wq_ri d17_24 (pk_charN hb).1 hQ
    · -- pc 12
      refine wq_l 13 d17_12 rfl rfl rfl rfl ?_
      refine wq_k 15 97 d17_13 (by decide) rfl ?_
      refine wq_a 16 d17_15 rfl rfl ?_
      refine wq_k 18 65 d17_16 (by decide) rfl ?_
      refine wq_a 19 d17_18 rfl rfl ?_
      refine wq_a 20 d17_19 rfl rfl ?_
      have hlo : 97 ≤ b := Nat.not_lt.mp (fun h => c3 (nI_lt (a := b) (b := 97) h (by decide)))
      have hhi : b ≤ 122 := Nat.not_lt.mp (fun h => c9 (nI_lt (a := 122) (b := b) h (by omega)))
      have e : ((nI b - 97 + 65).toUInt32 % 65536).toInt32 = nI (b - 32) := by
        rw [show (97 : Int32) = nI 97 from rfl, pk_sub hlo, show (65 : Int32) = nI 65 from rfl, nI_add, pk_char, pk_tn (by omega), Nat.mod_eq_of_lt (by omega)]
        congr 1
        omega
      rw [e]
      have e2 : nm_g b = b - 32 := by unfold nm_g; rw [if_pos ⟨hlo, hhi⟩]
      rw [e2] at hQ
      refine wq_g 24 d17_20 (by decide) ?_
      exact wq_ri d17_24 (pk_charN (by omega)).1 hQ
theorem d16_0 : decode prog_4_method_8_code 0 = .ok (.iconst 0, 1) := by decide +kernel
theorem d16_1 : decode prog_4_method_8_code 1 = .ok (.istore_n 3, 1) := by decide +kernel
theorem d16_2 : decode prog_4_method_8_code 2 = .ok (.iload_n 1, 1) := by decide +kernel
theorem d16_3 : decode prog_4_method_8_code 3 = .ok (.istore 4, 2) := by decide +kernel
theorem d16_5 : decode prog_4_method_8_code 5 = .ok (.iload 4, 2) := by decide +kernel
theorem d16_7 : decode prog_4_method_8_code 7 = .ok (.iload_n 2, 1) := by decide +kernel
theorem d16_8 : decode prog_4_method_8_code 8 = .ok (.if_icmp .ge 22, 3) := by decide +kernel
theorem d16_11 : decode prog_4_method_8_code 11 = .ok (.iload_n 3, 1) := by decide +kernel
theorem d16_12 : decode prog_4_method_8_code 12 = .ok (.bipush 31, 2) := by decide +kernel
theorem d16_14 : decode prog_4_method_8_code 14 = .ok (.imul, 1) := by decide +kernel
theorem d16_15 : decode prog_4_method_8_code 15 = .ok (.aload_n 0, 1) := by decide +kernel
theorem d16_16 : decode prog_4_method_8_code 16 = .ok (.iload 4, 2) := by decide +kernel
theorem d16_18 : decode prog_4_method_8_code 18 = .ok (.caload, 1) := by decide +kernel
theorem d16_19 : decode prog_4_method_8_code 19 = .ok (.invokestatic 84, 3) := by decide +kernel
theorem d16_22 : decode prog_4_method_8_code 22 = .ok (.iadd, 1) := by decide +kernel
theorem d16_23 : decode prog_4_method_8_code 23 = .ok (.istore_n 3, 1) := by decide +kernel
theorem d16_24 : decode prog_4_method_8_code 24 = .ok (.iinc 4 1, 3) := by decide +kernel
theorem d16_27 : decode prog_4_method_8_code 27 = .ok (.goto (-22), 3) := by decide +kernel
theorem d16_30 : decode prog_4_method_8_code 30 = .ok (.iload_n 3, 1) := by decide +kernel
theorem d16_31 : decode prog_4_method_8_code 31 = .ok (.sipush 1023, 3) := by decide +kernel
theorem d16_34 : decode prog_4_method_8_code 34 = .ok (.iand, 1) := by decide +kernel
theorem d16_35 : decode prog_4_method_8_code 35 = .ok (.ireturn, 1) := by decide +kernel
theorem m16 : pm_m 16 = some (⟨"TypeRules$Names", "bucketOf", "([CII)I"⟩, prog_4_method_8_code, 5, (some FieldType.int), 1, 3, 0) := rfl
theorem nm_hl {Y : pm_Y} {d : Nat} {σ : pm_S} {Q : Option Value → pm_S → Prop} {kt M a e : Nat} {t : Nat → Nat} (hT : nm_T Y σ kt M t) (heM : e ≤ M) : ∀ (n i : Nat) (acc : Int32), i + n = e → Q (some (.int (nm_h t acc i n &&& 1023))) σ → pm_WP Y (pm_call Y (d + 1)) 1 prog_4_method_8_code (some .int) Q 5 [.ref kt, .int (nI a), .int (nI e), .int acc, .int (nI i)] [] σ := by
  obtain ⟨hY, hM, hc⟩ := hT
  intro n
  induction n with
  | zero =>
    intro i acc hi hQ
    refine wq_l 7 d16_5 rfl rfl rfl rfl ?_
    refine wq_l 8 d16_7 rfl rfl rfl rfl ?_
    refine wq_b 30 11 d16_8 rfl (by decide) rfl (fun c8 => ?_) (fun c8 => absurd (nI_le (by omega) (by omega)) c8)
    refine wq_l 31 d16_30 rfl rfl rfl rfl ?_
    refine wq_k 34 1023 d16_31 (by decide) rfl ?_
    refine wq_a 35 d16_34 rfl rfl ?_
    refine wq_ri d16_35 (rfl) ?_
    exact hQ
  | succ n ih =>
    intro i acc hi hQ
    have hin : vp_in (nI i) M := vp_in_nI (by omega) (by omega)
    refine wq_l 7 d16_5 rfl rfl rfl rfl ?_
    refine wq_l 8 d16_7 rfl rfl rfl rfl ?_
    refine wq_b 30 11 d16_8 rfl (by decide) rfl (fun c8 => absurd c8 (nI_ge (by omega) (by omega))) (fun c8 => ?_)
    refine wq_l 12 d16_11 rfl rfl rfl rfl ?_
    refine wq_k 14 31 d16_12 (by decide) rfl ?_
    refine wq_a 15 d16_14 rfl rfl ?_
    refine wq_l 16 d16_15 rfl rfl rfl rfl ?_
    refine wq_l 18 d16_16 rfl rfl rfl rfl ?_
    refine wq_al 19 d16_18 rfl hY rfl (hin) ?_
    rw [nI_clamp (by omega), (hc i (by omega)).1]
    refine wq_vs 22 [_] d16_19 rfl rfl m17 rfl (Nat.le_of_ble_eq_true rfl) rfl (sp17 (hc i (by omega)).2 ?_)
    refine wq_a 23 d16_22 rfl rfl ?_
    refine wq_s 24 d16_23 rfl rfl (Nat.le_of_ble_eq_true rfl) rfl rfl ?_
    refine wq_i 27 d16_24 rfl rfl rfl ?_
    refine wq_g 5 d16_27 (by decide) ?_
    rw [show nI i + Int32.ofInt 1 = nI (i + 1) from (nI_succ i).symm]
    exact ih (i + 1) _ (by omega) hQ
theorem sp16 {Y : pm_Y} {d : Nat} {σ : pm_S} {Q : Option Value → pm_S → Prop} {kt M a e : Nat} {t : Nat → Nat} (hT : nm_T Y σ kt M t) (hae : a ≤ e) (heM : e ≤ M) (hQ : Q (some (.int (nm_b t a e))) σ) : pm_call Y (d + 2) 16 [.ref kt, .int (nI a), .int (nI e)] σ Q := by
  refine wq_m m16 (Nat.le_of_ble_eq_true rfl) (by decide) rfl ?_
  refine wq_k 1 0 d16_0 (by decide) rfl ?_
  refine wq_s 2 d16_1 rfl rfl (Nat.le_of_ble_eq_true rfl) rfl rfl ?_
  refine wq_l 3 d16_2 rfl rfl rfl rfl ?_
  refine wq_s 5 d16_3 rfl rfl (Nat.le_of_ble_eq_true rfl) rfl rfl ?_
  exact nm_hl hT heM (e - a) a 0 (by omega) hQ
/-- where the table of names lies -/
def nm_L (Y : pm_Y) (kN kl ks kh ko : Nat) : Prop := Y[kN]? = some (.inr (1, [kl + 2, ks + 2, kh + 2, ko + 2, 0])) ∧ Y[kl]? = some (.inl (1, 8704)) ∧ Y[ks]? = some (.inl (0, 4172)) ∧ Y[kh]? = some (.inl (0, 1024)) ∧ Y[ko]? = some (.inl (0, 4171))
/-- c names: name i is the letters lt from st i to st (i + 1) -/
def nm_S (σ : pm_S) (kN kl ks : Nat) (c : Nat) (st lt : Nat → Nat) : Prop := c ≤ 4171 ∧ σ.1 kN 4 = nI c ∧ (∀ i, i ≤ c → σ.2.2 ks i = nI (st i)) ∧ (∀ i, i < c → st i ≤ st (i + 1)) ∧ (∀ i, i ≤ c → st i ≤ 8704) ∧ ∀ i, i < st c → σ.2.2 kl i = nI (lt i) ∧ lt i < 65536
def nm_eq (st lt t : Nat → Nat) (i a e : Nat) : Prop := st (i + 1) - st i = e - a ∧ ∀ k, k < e - a → lt (st i + k) = nm_g (t (a + k))
theorem nm_mono {c : Nat} {st : Nat → Nat} (h : ∀ i, i < c → st i ≤ st (i + 1)) : ∀ i j, i ≤ j → j ≤ c → st i ≤ st j := by
  intro i j hij
  induction hij with
  | refl => intro _; exact Nat.le_refl _
  | step hm ih => intro hj; exact Nat.le_trans (ih (by omega)) (h _ (by omega))
theorem d18_0 : decode prog_4_method_7_code 0 = .ok (.aload_n 0, 1) := by decide +kernel
theorem d18_1 : decode prog_4_method_7_code 1 = .ok (.getfield 17, 3) := by decide +kernel
theorem d18_4 : decode prog_4_method_7_code 4 = .ok (.iload_n 1, 1) := by decide +kernel
theorem d18_5 : decode prog_4_method_7_code 5 = .ok (.iaload, 1) := by decide +kernel
theorem d18_6 : decode prog_4_method_7_code 6 = .ok (.istore 5, 2) := by decide +kernel
theorem d18_8 : decode prog_4_method_7_code 8 = .ok (.aload_n 0, 1) := by decide +kernel
theorem d18_9 : decode prog_4_method_7_code 9 = .ok (.getfield 17, 3) := by decide +kernel
theorem d18_12 : decode prog_4_method_7_code 12 = .ok (.iload_n 1, 1) := by decide +kernel
theorem d18_13 : decode prog_4_method_7_code 13 = .ok (.iconst 1, 1) := by decide +kernel
theorem d18_14 : decode prog_4_method_7_code 14 = .ok (.iadd, 1) := by decide +kernel
theorem d18_15 : decode prog_4_method_7_code 15 = .ok (.iaload, 1) := by decide +kernel
theorem d18_16 : decode prog_4_method_7_code 16 = .ok (.iload 5, 2) := by decide +kernel
theorem d18_18 : decode prog_4_method_7_code 18 = .ok (.isub, 1) := by decide +kernel
theorem d18_19 : decode prog_4_method_7_code 19 = .ok (.iload 4, 2) := by decide +kernel
theorem d18_21 : decode prog_4_method_7_code 21 = .ok (.iload_n 3, 1) := by decide +kernel
theorem d18_22 : decode prog_4_method_7_code 22 = .ok (.isub, 1) := by decide +kernel
theorem d18_23 : decode prog_4_method_7_code 23 = .ok (.if_icmp .eq 5, 3) := by decide +kernel
theorem d18_26 : decode prog_4_method_7_code 26 = .ok (.iconst 0, 1) := by decide +kernel
theorem d18_27 : decode prog_4_method_7_code 27 = .ok (.ireturn, 1) := by decide +kernel
theorem d18_28 : decode prog_4_method_7_code 28 = .ok (.iload_n 3, 1) := by decide +kernel
theorem d18_29 : decode prog_4_method_7_code 29 = .ok (.istore 6, 2) := by decide +kernel
theorem d18_31 : decode prog_4_method_7_code 31 = .ok (.iload 6, 2) := by decide +kernel
theorem d18_33 : decode prog_4_method_7_code 33 = .ok (.iload 4, 2) := by decide +kernel
theorem d18_35 : decode prog_4_method_7_code 35 = .ok (.if_icmp .ge 33, 3) := by decide +kernel
theorem d18_38 : decode prog_4_method_7_code 38 = .ok (.aload_n 0, 1) := by decide +kernel
theorem d18_39 : decode prog_4_method_7_code 39 = .ok (.getfield 13, 3) := by decide +kernel
theorem d18_42 : decode prog_4_method_7_code 42 = .ok (.iload 5, 2) := by decide +kernel
theorem d18_44 : decode prog_4_method_7_code 44 = .ok (.iload 6, 2) := by decide +kernel
theorem d18_46 : decode prog_4_method_7_code 46 = .ok (.iadd, 1) := by decide +kernel
theorem d18_47 : decode prog_4_method_7_code 47 = .ok (.iload_n 3, 1) := by decide +kernel
theorem d18_48 : decode prog_4_method_7_code 48 = .ok (.isub, 1) := by decide +kernel
theorem d18_49 : decode prog_4_method_7_code 49 = .ok (.caload, 1) := by decide +kernel
theorem d18_50 : decode prog_4_method_7_code 50 = .ok (.aload_n 2, 1) := by decide +kernel
theorem d18_51 : decode prog_4_method_7_code 51 = .ok (.iload 6, 2) := by decide +kernel
theorem d18_53 : decode prog_4_method_7_code 53 = .ok (.caload, 1) := by decide +kernel
theorem d18_54 : decode prog_4_method_7_code 54 = .ok (.invokestatic 84, 3) := by decide +kernel
theorem d18_57 : decode prog_4_method_7_code 57 = .ok (.if_icmp .eq 5, 3) := by decide +kernel
theorem d18_60 : decode prog_4_method_7_code 60 = .ok (.iconst 0, 1) := by decide +kernel
theorem d18_61 : decode prog_4_method_7_code 61 = .ok (.ireturn, 1) := by decide +kernel
theorem d18_62 : decode prog_4_method_7_code 62 = .ok (.iinc 6 1, 3) := by decide +kernel
theorem d18_65 : decode prog_4_method_7_code 65 = .ok (.goto (-34), 3) := by decide +kernel
theorem d18_68 : decode prog_4_method_7_code 68 = .ok (.iconst 1, 1) := by decide +kernel
theorem d18_69 : decode prog_4_method_7_code 69 = .ok (.ireturn, 1) := by decide +kernel
theorem m18 : pm_m 18 = some (⟨"TypeRules$Names", "isSame", "(I[CII)Z"⟩, prog_4_method_7_code, 7, (some FieldType.boolean), 1, 4, 2) := rfl
theorem nm_sl {Y : pm_Y} {d : Nat} {σ : pm_S} {Q : Option Value → pm_S → Prop} {kN kl ks kh ko kt M a e i c : Nat} {t st lt : Nat → Nat} (hL : nm_L Y kN kl ks kh ko) (hT : nm_T Y σ kt M t) (hS : nm_S σ kN kl ks c st lt) (hi : i < c) (hae : a ≤ e) (heM : e ≤ M) (hlen : st (i + 1) - st i = e - a) (h1 : (∀ k, k < e - a → lt (st i + k) = nm_g (t (a + k))) → Q (some (.int 1)) σ) (h0 : ¬ (∀ k, k < e - a → lt (st i + k) = nm_g (t (a + k))) → Q (some (.int 0)) σ) : ∀ (n j : Nat), j + n = e → a ≤ j → (∀ k, k < j - a → lt (st i + k) = nm_g (t (a + k))) → pm_WP Y (pm_call Y (d + 1)) 1 prog_4_method_7_code (some .boolean) Q 31 [.ref kN, .int (nI i), .ref kt, .int (nI a), .int (nI e), .int (nI (st i)), .int (nI j)] [] σ := by
  obtain ⟨hY, hM, hc⟩ := hT
  obtain ⟨l1, l2, l3, l4, l5⟩ := hL
  obtain ⟨s1, s2, s3, s4, s5, s6⟩ := hS
  intro n
  induction n with
  | zero =>
    intro j hj haj hk
    refine wq_l 33 d18_31 rfl rfl rfl rfl ?_
    refine wq_l 35 d18_33 rfl rfl rfl rfl ?_
    refine wq_b 68 38 d18_35 rfl (by decide) rfl (fun c35 => ?_) (fun c35 => absurd (nI_le (by omega) (by omega)) c35)
    refine wq_k 69 1 d18_68 (by decide) rfl ?_
    refine wq_ri d18_69 (by decide) ?_
    exact h1 (fun k hk2 => hk k (by omega))
  | succ n ih =>
    intro j hj haj hk
    have hst1 : st (i + 1) ≤ 8704 := s5 (i + 1) (by omega)
    have hstc : st (i + 1) ≤ st c := nm_mono s4 (i + 1) c (by omega) (Nat.le_refl _)
    have hle := s4 i hi
    have ej : nI (st i) + nI j - nI a = nI (st i + (j - a)) := by rw [nI_add, pk_sub (by omega)]; congr 1; omega
    have hin1 : vp_in (nI (st i + (j - a))) 8704 := vp_in_nI (by omega) (by decide)
    have hin2 : vp_in (nI j) M := vp_in_nI (by omega) (by omega)
    have hl1 := s6 (st i + (j - a)) (by omega)
    have hc1 := hc j (by omega)
    refine wq_l 33 d18_31 rfl rfl rfl rfl ?_
    refine wq_l 35 d18_33 rfl rfl rfl rfl ?_
    refine wq_b 68 38 d18_35 rfl (by decide) rfl (fun c35 => absurd c35 (nI_ge (by omega) (by omega))) (fun c35 => ?_)
    refine wq_l 39 d18_38 rfl rfl rfl rfl ?_
    refine wq_gr (ci := 1) (j := 0) (q := kl) 42 d18_39 rfl l1 rfl rfl ?_
    refine wq_l 44 d18_42 rfl rfl rfl rfl ?_
    refine wq_l 46 d18_44 rfl rfl rfl rfl ?_
    refine wq_a 47 d18_46 rfl rfl ?_
    refine wq_l 48 d18_47 rfl rfl rfl rfl ?_
    refine wq_a 49 d18_48 rfl rfl ?_
    rw [ej]
    refine wq_al 50 d18_49 rfl l2 rfl hin1 ?_
    rw [nI_clamp (by omega), hl1.1]
    refine wq_l 51 d18_50 rfl rfl rfl rfl ?_
    refine wq_l 53 d18_51 rfl rfl rfl rfl ?_
    refine wq_al 54 d18_53 rfl hY rfl hin2 ?_
    rw [nI_clamp (by omega), hc1.1]
    refine wq_vs 57 [_] d18_54 rfl rfl m17 rfl (Nat.le_of_ble_eq_true rfl) rfl (sp17 hc1.2 ?_)
    refine wq_b 62 60 d18_57 rfl (by decide) rfl (fun c57 => ?_) (fun c57 => ?_)
    · refine wq_i 65 d18_62 rfl rfl rfl ?_
      refine wq_g 31 d18_65 (by decide) ?_
      rw [show nI j + Int32.ofInt 1 = nI (j + 1) from (nI_succ j).symm]
      have c57 : lt (st i + (j - a)) = nm_g (t j) := (nI_eq (by omega) (by have := nm_g_lt hc1.2; omega)).mp c57
      refine ih (j + 1) (by omega) (by omega) (fun k hk2 => ?_)
      by_cases hkj : k < j - a
      · exact hk k hkj
      · have : k = j - a := by omega
        subst this
        rw [c57]
        congr 2
        omega
    · refine wq_k 61 0 d18_60 (by decide) rfl ?_
      refine wq_ri d18_61 (by decide) (h0 (fun hall => c57 ?_))
      have := hall (j - a) (by omega)
      rw [this]
      congr 3
      omega
theorem sp18 {Y : pm_Y} {d : Nat} {σ : pm_S} {Q : Option Value → pm_S → Prop} {kN kl ks kh ko kt M a e i c : Nat} {t st lt : Nat → Nat} (hL : nm_L Y kN kl ks kh ko) (hT : nm_T Y σ kt M t) (hS : nm_S σ kN kl ks c st lt) (hi : i < c) (hae : a ≤ e) (heM : e ≤ M) (h1 : nm_eq st lt t i a e → Q (some (.int 1)) σ) (h0 : ¬ nm_eq st lt t i a e → Q (some (.int 0)) σ) : pm_call Y (d + 2) 18 [.ref kN, .int (nI i), .ref kt, .int (nI a), .int (nI e)] σ Q := by
  have hT' := hT
  have hS' := hS
  obtain ⟨hY, hM, hc⟩ := hT'
  obtain ⟨l1, l2, l3, l4, l5⟩ := id hL
  obtain ⟨s1, s2, s3, s4, s5, s6⟩ := hS'
  have hst := s5 i (by omega)
  have hst1 := s5 (i + 1) (by omega)
  have hin1 : vp_in (nI i) 4172 := vp_in_nI (by omega) (by decide)
  have hin2 : vp_in (nI i + 1) 4172 := by rw [nI_1]; exact vp_in_nI (by omega) (by decide)
  refine wq_m m18 (Nat.le_of_ble_eq_true rfl) (by decide) rfl ?_
  refine wq_l 1 d18_0 rfl rfl rfl rfl ?_
  refine wq_gr (ci := 1) (j := 1) (q := ks) 4 d18_1 rfl l1 rfl rfl ?_
  refine wq_l 5 d18_4 rfl rfl rfl rfl ?_
  refine wq_al 6 d18_5 rfl l3 rfl (hin1) ?_
  rw [nI_clamp (by omega), s3 i (by omega)]
  refine wq_s 8 d18_6 rfl rfl (Nat.le_of_ble_eq_true rfl) rfl rfl ?_
  refine wq_l 9 d18_8 rfl rfl rfl rfl ?_
  refine wq_gr (ci := 1) (j := 1) (q := ks) 12 d18_9 rfl l1 rfl rfl ?_
  refine wq_l 13 d18_12 rfl rfl rfl rfl ?_
  refine wq_k 14 1 d18_13 (by decide) rfl ?_
  refine wq_a 15 d18_14 rfl rfl ?_
  refine wq_al 16 d18_15 rfl l3 rfl hin2 ?_
  rw [nI_1, nI_clamp (by omega), s3 (i + 1) (by omega)]
  refine wq_l 18 d18_16 rfl rfl rfl rfl ?_
  refine wq_a 19 d18_18 rfl rfl ?_
  refine wq_l 21 d18_19 rfl rfl rfl rfl ?_
  refine wq_l 22 d18_21 rfl rfl rfl rfl ?_
  refine wq_a 23 d18_22 rfl rfl ?_
  rw [pk_sub (s4 i hi), pk_sub hae]
  refine wq_b 28 26 d18_23 rfl (by decide) rfl (fun c23 => ?_) (fun c23 => ?_)
  · have hlen : st (i + 1) - st i = e - a := (nI_eq (by omega) (by omega)).mp c23
    refine wq_l 29 d18_28 rfl rfl rfl rfl ?_
    refine wq_s 31 d18_29 rfl rfl (Nat.le_of_ble_eq_true rfl) rfl rfl ?_
    exact nm_sl hL hT hS hi hae heM hlen (fun h => h1 ⟨hlen, h⟩) (fun h => h0 (fun q => h q.2)) (e - a) a (by omega) (Nat.le_refl _) (fun k hk => by omega)
  · refine wq_k 27 0 d18_26 (by decide) rfl ?_
    exact wq_ri d18_27 (by decide) (h0 (fun q => c23 (by rw [q.1])))
