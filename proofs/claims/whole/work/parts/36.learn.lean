/-! LEARN: the words of a constant go into the table -/
def nl_t (j k : Nat) : Nat := (pm_sbt j k).toNatClampNeg
theorem nl_t_ok : ∀ j, j < 9 → ∀ k, k < pm_sln j → pm_sbt j k = nI (nl_t j k) ∧ nl_t j k < 65536 := by decide +kernel
def nl_in (ns : List (List Nat)) (w : List Nat) : List (List Nat) := if w ∈ ns then ns else ns ++ [w]
/-- n steps of learn's loop, from place i on; a word began at a -/
def nl_F (t : Nat → Nat) (M : Nat) : Nat → List (List Nat) → Nat → Nat → List (List Nat)
  | 0, ns, _, _ => ns
  | n + 1, ns, a, i => if i = M ∨ t i = 32 then nl_F t M n (nl_in ns (nt_w t a i)) (i + 1) (i + 1) else nl_F t M n ns a (i + 1)
/-- the layout of a table of names alone, and with a source of M chars -/
abbrev nl_Y5 : pm_Y := [.inr (1, [3, 4, 5, 6, 0]), .inl (1, 8704), .inl (0, 4172), .inl (0, 1024), .inl (0, 4171)]
abbrev nl_Y6 (M : Nat) : pm_Y := [.inr (1, [3, 4, 5, 6, 0]), .inl (1, 8704), .inl (0, 4172), .inl (0, 1024), .inl (0, 4171), .inl (1, M)]
theorem nl_L6 (M : Nat) : nm_L (nl_Y6 M) 0 1 2 3 4 := ⟨rfl, rfl, rfl, rfl, rfl⟩
theorem nl_D6 : nm_D 1 2 3 4 5 := by unfold nm_D; decide
theorem d14_0 : decode prog_4_method_2_code 0 = .ok (.aload_n 1, 1) := by decide +kernel
theorem d14_1 : decode prog_4_method_2_code 1 = .ok (.invokevirtual 57, 3) := by decide +kernel
theorem d14_4 : decode prog_4_method_2_code 4 = .ok (.astore_n 2, 1) := by decide +kernel
theorem d14_5 : decode prog_4_method_2_code 5 = .ok (.iconst 0, 1) := by decide +kernel
theorem d14_6 : decode prog_4_method_2_code 6 = .ok (.istore_n 3, 1) := by decide +kernel
theorem d14_7 : decode prog_4_method_2_code 7 = .ok (.iconst 0, 1) := by decide +kernel
theorem d14_8 : decode prog_4_method_2_code 8 = .ok (.istore 4, 2) := by decide +kernel
theorem d14_10 : decode prog_4_method_2_code 10 = .ok (.iload 4, 2) := by decide +kernel
theorem d14_12 : decode prog_4_method_2_code 12 = .ok (.aload_n 2, 1) := by decide +kernel
theorem d14_13 : decode prog_4_method_2_code 13 = .ok (.arraylength, 1) := by decide +kernel
theorem d14_14 : decode prog_4_method_2_code 14 = .ok (.if_icmp .gt 39, 3) := by decide +kernel
theorem d14_17 : decode prog_4_method_2_code 17 = .ok (.iload 4, 2) := by decide +kernel
theorem d14_19 : decode prog_4_method_2_code 19 = .ok (.aload_n 2, 1) := by decide +kernel
theorem d14_20 : decode prog_4_method_2_code 20 = .ok (.arraylength, 1) := by decide +kernel
theorem d14_21 : decode prog_4_method_2_code 21 = .ok (.if_icmp .eq 12, 3) := by decide +kernel
theorem d14_24 : decode prog_4_method_2_code 24 = .ok (.aload_n 2, 1) := by decide +kernel
theorem d14_25 : decode prog_4_method_2_code 25 = .ok (.iload 4, 2) := by decide +kernel
theorem d14_27 : decode prog_4_method_2_code 27 = .ok (.caload, 1) := by decide +kernel
theorem d14_28 : decode prog_4_method_2_code 28 = .ok (.bipush 32, 2) := by decide +kernel
theorem d14_30 : decode prog_4_method_2_code 30 = .ok (.if_icmp .ne 17, 3) := by decide +kernel
theorem d14_33 : decode prog_4_method_2_code 33 = .ok (.aload_n 0, 1) := by decide +kernel
theorem d14_34 : decode prog_4_method_2_code 34 = .ok (.aload_n 2, 1) := by decide +kernel
theorem d14_35 : decode prog_4_method_2_code 35 = .ok (.iload_n 3, 1) := by decide +kernel
theorem d14_36 : decode prog_4_method_2_code 36 = .ok (.iload 4, 2) := by decide +kernel
theorem d14_38 : decode prog_4_method_2_code 38 = .ok (.invokevirtual 63, 3) := by decide +kernel
theorem d14_41 : decode prog_4_method_2_code 41 = .ok (.pop, 1) := by decide +kernel
theorem d14_42 : decode prog_4_method_2_code 42 = .ok (.iload 4, 2) := by decide +kernel
theorem d14_44 : decode prog_4_method_2_code 44 = .ok (.iconst 1, 1) := by decide +kernel
theorem d14_45 : decode prog_4_method_2_code 45 = .ok (.iadd, 1) := by decide +kernel
theorem d14_46 : decode prog_4_method_2_code 46 = .ok (.istore_n 3, 1) := by decide +kernel
theorem d14_47 : decode prog_4_method_2_code 47 = .ok (.iinc 4 1, 3) := by decide +kernel
theorem d14_50 : decode prog_4_method_2_code 50 = .ok (.goto (-40), 3) := by decide +kernel
theorem d14_53 : decode prog_4_method_2_code 53 = .ok (.return_, 1) := by decide +kernel
theorem m14 : pm_m 14 = some (⟨"TypeRules$Names", "learn", "(Ljava/lang/String;)V"⟩, prog_4_method_2_code, 5, none, 1, 1, 2) := rfl
theorem nl_loop {d : Nat} {Q : Option Value → pm_S → Prop} {j M : Nat} {t : Nat → Nat} (hM : M ≤ 100) : ∀ (n i a : Nat) (ns : List (List Nat)) (σ : pm_S), i + n = M + 1 → a ≤ i → nt_I σ 0 1 2 3 4 ns → nm_T (nl_Y6 M) σ 5 M t → ns.length + n ≤ 4000 → ns.flatten.length + (M - a) ≤ 8704 → (∀ σ', nt_I σ' 0 1 2 3 4 (nl_F t M n ns a i) → Q none σ') → pm_WP (nl_Y6 M) (pm_call (nl_Y6 M) (d + 3)) 1 prog_4_method_2_code none Q 10 [.ref 0, .ref (1100 + j), .ref 5, .int (nI a), .int (nI i)] [] σ := by
  intro n
  induction n with
  | zero =>
    intro i a ns σ hi hai hI hT hc hf hQ
    refine wq_l 12 d14_10 rfl rfl rfl rfl ?_
    refine wq_l 13 d14_12 rfl rfl rfl rfl ?_
    refine wq_len 14 d14_13 rfl rfl rfl ?_
    refine wq_b 53 17 d14_14 rfl (by decide) rfl (fun c14 => ?_) (fun c14 => absurd (nI_lt (a := M) (b := i) (by omega) (by omega)) c14)
    refine wq_rv d14_53 ?_
    exact hQ σ hI
  | succ n ih =>
    intro i a ns σ hi hai hI hT hc hf hQ
    obtain ⟨hY, hM2, hcc⟩ := id hT
    have word : (i = M ∨ t i = 32) → pm_WP (nl_Y6 M) (pm_call (nl_Y6 M) (d + 3)) 1 prog_4_method_2_code none Q 33 [.ref 0, .ref (1100 + j), .ref 5, .int (nI a), .int (nI i)] [] σ := by
      intro hw
      have hQ' : ∀ σ', nt_I σ' 0 1 2 3 4 (nl_F t M n (nl_in ns (nt_w t a i)) (i + 1) (i + 1)) → Q none σ' := by
        intro σ' h
        refine hQ σ' ?_
        unfold nl_F
        rw [if_pos hw]
        exact h
      have back : ∀ σ' ns', nt_I σ' 0 1 2 3 4 ns' → σ'.2.2 5 = σ.2.2 5 → ns' = nl_in ns (nt_w t a i) → ns'.length + n ≤ 4000 → ns'.flatten.length + (M - (i + 1)) ≤ 8704 → ∀ v : Int32, pm_WP (nl_Y6 M) (pm_call (nl_Y6 M) (d + 3)) 1 prog_4_method_2_code none Q 41 [.ref 0, .ref (1100 + j), .ref 5, .int (nI a), .int (nI i)] [.int v] σ' := by
        intro σ' ns' h1 h2 h3 h4 h5 v
        refine wq_a 42 d14_41 rfl rfl ?_
        refine wq_l 44 d14_42 rfl rfl rfl rfl ?_
        refine wq_k 45 1 d14_44 (by decide) rfl ?_
        refine wq_a 46 d14_45 rfl rfl ?_
        rw [nI_1]
        refine wq_s 47 d14_46 rfl rfl (Nat.le_of_ble_eq_true rfl) rfl rfl ?_
        refine wq_i 50 d14_47 rfl rfl rfl ?_
        refine wq_g 10 d14_50 (by decide) ?_
        rw [show nI i + Int32.ofInt 1 = nI (i + 1) from (nI_succ i).symm]
        exact ih (i + 1) (i + 1) ns' σ' (by omega) (Nat.le_refl _) h1 ⟨hY, hM2, by rw [h2]; exact hcc⟩ h4 h5 (by rw [h3]; exact hQ')
      refine wq_l 34 d14_33 rfl rfl rfl rfl ?_
      refine wq_l 35 d14_34 rfl rfl rfl rfl ?_
      refine wq_l 36 d14_35 rfl rfl rfl rfl ?_
      refine wq_l 38 d14_36 rfl rfl rfl rfl ?_
      refine wq_v 41 [_, _, _] d14_38 rfl rfl m15 rfl rfl (Nat.le_of_ble_eq_true rfl) rfl (nt_numberOf (d := d) (nl_L6 M) nl_D6 hT hI hai (by omega) (fun k hk => ?_) (fun hnot => ⟨by omega, by omega, fun σ' h1 h2 h3 h4 => ?_⟩))
      · refine back σ ns hI rfl ?_ (by omega) (by omega) _
        unfold nl_in
        rw [if_pos (List.mem_of_getElem? hk)]
      · refine back σ' _ h1 (h4 5 (by decide) (by decide) (by decide) (by decide)) ?_ ?_ ?_ _
        · unfold nl_in
          rw [if_neg hnot]
        · rw [List.length_append, List.length_singleton]; omega
        · rw [List.flatten_append, List.length_append]
          simp only [List.flatten_cons, List.flatten_nil, List.append_nil, nt_w_len]
          omega
    refine wq_l 12 d14_10 rfl rfl rfl rfl ?_
    refine wq_l 13 d14_12 rfl rfl rfl rfl ?_
    refine wq_len 14 d14_13 rfl rfl rfl ?_
    refine wq_b 53 17 d14_14 rfl (by decide) rfl (fun z => absurd z (nI_nlt (a := M) (b := i) (by omega) (by omega))) (fun _ => ?_)
    refine wq_l 19 d14_17 rfl rfl rfl rfl ?_
    refine wq_l 20 d14_19 rfl rfl rfl rfl ?_
    refine wq_len 21 d14_20 rfl rfl rfl ?_
    refine wq_b 33 24 d14_21 rfl (by decide) rfl (fun z => word (Or.inl ((nI_eq (by omega) (by omega)).mp z))) (fun z => ?_)
    have hiM : i ≠ M := fun h => z (by rw [h]; rfl)
    have hc1 := hcc i (by omega)
    refine wq_l 25 d14_24 rfl rfl rfl rfl ?_
    refine wq_l 27 d14_25 rfl rfl rfl rfl ?_
    refine wq_al 28 d14_27 rfl hY rfl (vp_in_nI (by omega) (by omega)) ?_
    rw [nI_clamp (by omega), hc1.1]
    refine wq_k 30 32 d14_28 (by decide) rfl ?_
    refine wq_b 47 33 d14_30 rfl (by decide) rfl (fun z2 => ?_) (fun z2 => word (Or.inr ?_))
    · have h32 : t i ≠ 32 := fun h => z2 (by rw [h]; rfl)
      refine wq_i 50 d14_47 rfl rfl rfl ?_
      refine wq_g 10 d14_50 (by decide) ?_
      rw [show nI i + Int32.ofInt 1 = nI (i + 1) from (nI_succ i).symm]
      refine ih (i + 1) a ns σ (by omega) (by omega) hI hT (by omega) hf (fun σ' h => hQ σ' ?_)
      unfold nl_F
      rw [if_neg (fun q => q.elim hiM h32)]
      exact h
    · exact (nI_eq (a := t i) (b := 32) (by omega) (by decide)).mp (Decidable.of_not_not z2)
