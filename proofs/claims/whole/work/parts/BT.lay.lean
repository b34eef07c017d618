theorem d117_0 : decode prog_2_method_19_code 0 = .ok (.aload_n 0, 1) := by decide +kernel
theorem d117_1 : decode prog_2_method_19_code 1 = .ok (.getfield 49, 3) := by decide +kernel
theorem d117_4 : decode prog_2_method_19_code 4 = .ok (.ifCond .eq 14, 3) := by decide +kernel
theorem d117_7 : decode prog_2_method_19_code 7 = .ok (.aload_n 0, 1) := by decide +kernel
theorem d117_8 : decode prog_2_method_19_code 8 = .ok (.aload_n 0, 1) := by decide +kernel
theorem d117_9 : decode prog_2_method_19_code 9 = .ok (.invokevirtual 78, 3) := by decide +kernel
theorem d117_12 : decode prog_2_method_19_code 12 = .ok (.invokevirtual 82, 3) := by decide +kernel
theorem d117_15 : decode prog_2_method_19_code 15 = .ok (.goto 4, 3) := by decide +kernel
theorem d117_18 : decode prog_2_method_19_code 18 = .ok (.iconst 0, 1) := by decide +kernel
theorem d117_19 : decode prog_2_method_19_code 19 = .ok (.istore_n 1, 1) := by decide +kernel
theorem d117_20 : decode prog_2_method_19_code 20 = .ok (.bipush 9, 2) := by decide +kernel
theorem d117_22 : decode prog_2_method_19_code 22 = .ok (.istore_n 2, 1) := by decide +kernel
theorem d117_23 : decode prog_2_method_19_code 23 = .ok (.iload_n 2, 1) := by decide +kernel
theorem d117_24 : decode prog_2_method_19_code 24 = .ok (.aload_n 0, 1) := by decide +kernel
theorem d117_25 : decode prog_2_method_19_code 25 = .ok (.getfield 42, 3) := by decide +kernel
theorem d117_28 : decode prog_2_method_19_code 28 = .ok (.if_icmp .ge 55, 3) := by decide +kernel
theorem d117_31 : decode prog_2_method_19_code 31 = .ok (.aload_n 0, 1) := by decide +kernel
theorem d117_32 : decode prog_2_method_19_code 32 = .ok (.getfield 24, 3) := by decide +kernel
theorem d117_35 : decode prog_2_method_19_code 35 = .ok (.iload_n 2, 1) := by decide +kernel
theorem d117_36 : decode prog_2_method_19_code 36 = .ok (.iaload, 1) := by decide +kernel
theorem d117_37 : decode prog_2_method_19_code 37 = .ok (.iconst 3, 1) := by decide +kernel
theorem d117_38 : decode prog_2_method_19_code 38 = .ok (.if_icmp .ne 13, 3) := by decide +kernel
theorem d117_41 : decode prog_2_method_19_code 41 = .ok (.aload_n 0, 1) := by decide +kernel
theorem d117_42 : decode prog_2_method_19_code 42 = .ok (.getfield 30, 3) := by decide +kernel
theorem d117_45 : decode prog_2_method_19_code 45 = .ok (.iload_n 2, 1) := by decide +kernel
theorem d117_46 : decode prog_2_method_19_code 46 = .ok (.iconst 0, 1) := by decide +kernel
theorem d117_47 : decode prog_2_method_19_code 47 = .ok (.iastore, 1) := by decide +kernel
theorem d117_48 : decode prog_2_method_19_code 48 = .ok (.goto 29, 3) := by decide +kernel
theorem d117_51 : decode prog_2_method_19_code 51 = .ok (.aload_n 0, 1) := by decide +kernel
theorem d117_52 : decode prog_2_method_19_code 52 = .ok (.getfield 24, 3) := by decide +kernel
theorem d117_55 : decode prog_2_method_19_code 55 = .ok (.iload_n 2, 1) := by decide +kernel
theorem d117_56 : decode prog_2_method_19_code 56 = .ok (.iaload, 1) := by decide +kernel
theorem d117_57 : decode prog_2_method_19_code 57 = .ok (.iconst 1, 1) := by decide +kernel
theorem d117_58 : decode prog_2_method_19_code 58 = .ok (.if_icmp .ne 19, 3) := by decide +kernel
theorem d117_61 : decode prog_2_method_19_code 61 = .ok (.aload_n 0, 1) := by decide +kernel
theorem d117_62 : decode prog_2_method_19_code 62 = .ok (.getfield 30, 3) := by decide +kernel
theorem d117_65 : decode prog_2_method_19_code 65 = .ok (.iload_n 2, 1) := by decide +kernel
theorem d117_66 : decode prog_2_method_19_code 66 = .ok (.iload_n 1, 1) := by decide +kernel
theorem d117_67 : decode prog_2_method_19_code 67 = .ok (.iastore, 1) := by decide +kernel
theorem d117_68 : decode prog_2_method_19_code 68 = .ok (.iload_n 1, 1) := by decide +kernel
theorem d117_69 : decode prog_2_method_19_code 69 = .ok (.aload_n 0, 1) := by decide +kernel
theorem d117_70 : decode prog_2_method_19_code 70 = .ok (.getfield 27, 3) := by decide +kernel
theorem d117_73 : decode prog_2_method_19_code 73 = .ok (.iload_n 2, 1) := by decide +kernel
theorem d117_74 : decode prog_2_method_19_code 74 = .ok (.iaload, 1) := by decide +kernel
theorem d117_75 : decode prog_2_method_19_code 75 = .ok (.iadd, 1) := by decide +kernel
theorem d117_76 : decode prog_2_method_19_code 76 = .ok (.istore_n 1, 1) := by decide +kernel
theorem d117_77 : decode prog_2_method_19_code 77 = .ok (.iinc 2 1, 3) := by decide +kernel
theorem d117_80 : decode prog_2_method_19_code 80 = .ok (.goto (-57), 3) := by decide +kernel
theorem d117_83 : decode prog_2_method_19_code 83 = .ok (.aload_n 0, 1) := by decide +kernel
theorem d117_84 : decode prog_2_method_19_code 84 = .ok (.iload_n 1, 1) := by decide +kernel
theorem d117_85 : decode prog_2_method_19_code 85 = .ok (.putfield 46, 3) := by decide +kernel
theorem d117_88 : decode prog_2_method_19_code 88 = .ok (.return_, 1) := by decide +kernel
theorem m117 : pm_m 117 = some (⟨"TypeRules$Blocks", "lay", "()V"⟩, prog_2_method_19_code, 3, none, 5, 0, 6) := rfl
theorem d145_0 : decode prog_7_method_7_code 0 = .ok (.aload_n 0, 1) := by decide +kernel
theorem d145_1 : decode prog_7_method_7_code 1 = .ok (.getfield 19, 3) := by decide +kernel
theorem d145_4 : decode prog_7_method_7_code 4 = .ok (.invokevirtual 113, 3) := by decide +kernel
theorem d145_7 : decode prog_7_method_7_code 7 = .ok (.ifCond .ne 6, 3) := by decide +kernel
theorem d145_10 : decode prog_7_method_7_code 10 = .ok (.bipush 10, 2) := by decide +kernel
theorem d145_12 : decode prog_7_method_7_code 12 = .ok (.ireturn, 1) := by decide +kernel
theorem d145_13 : decode prog_7_method_7_code 13 = .ok (.aload_n 0, 1) := by decide +kernel
theorem d145_14 : decode prog_7_method_7_code 14 = .ok (.getfield 19, 3) := by decide +kernel
theorem d145_17 : decode prog_7_method_7_code 17 = .ok (.invokevirtual 177, 3) := by decide +kernel
theorem d145_20 : decode prog_7_method_7_code 20 = .ok (.aload_n 0, 1) := by decide +kernel
theorem d145_21 : decode prog_7_method_7_code 21 = .ok (.getfield 19, 3) := by decide +kernel
theorem d145_24 : decode prog_7_method_7_code 24 = .ok (.invokevirtual 180, 3) := by decide +kernel
theorem d145_27 : decode prog_7_method_7_code 27 = .ok (.sipush 8192, 3) := by decide +kernel
theorem d145_30 : decode prog_7_method_7_code 30 = .ok (.if_icmp .le 8, 3) := by decide +kernel
theorem d145_33 : decode prog_7_method_7_code 33 = .ok (.bipush 42, 2) := by decide +kernel
theorem d145_35 : decode prog_7_method_7_code 35 = .ok (.goto 4, 3) := by decide +kernel
theorem d145_38 : decode prog_7_method_7_code 38 = .ok (.iconst 0, 1) := by decide +kernel
theorem d145_39 : decode prog_7_method_7_code 39 = .ok (.ireturn, 1) := by decide +kernel
theorem m145 : pm_m 145 = some (⟨"TypeRules$Rules", "textFault", "()I"⟩, prog_7_method_7_code, 1, (some FieldType.int), 7, 0, 8) := rfl
/-! THE BLOCKS ARE LAID, in the class -/
def rl_pl : Nat → List rl_B → List Int32
  | _, [] => []
  | b, y :: r => (if y.1 = 3 then 0 else if y.1 = 1 then nI b else -1) :: rl_pl (if y.1 = 1 then b + y.2.2.2.1 else b) r
def rl_pe (b : Nat) (L : List rl_B) : Nat := b + ((L.filter (fun b => decide (b.1 = 1))).map (fun b => b.2.2.2.1)).sum
theorem rl_pec {b : Nat} {y : rl_B} {r : List rl_B} : rl_pe b (y :: r) = rl_pe (if y.1 = 1 then b + y.2.2.2.1 else b) r := by
  unfold rl_pe
  by_cases q : y.1 = 1
  · rw [List.filter_cons_of_pos (by simpa using q), if_pos q, List.map_cons, List.sum_cons]; omega
  · rw [List.filter_cons_of_neg (by simpa using q), if_neg q]
theorem rl_peall {B : List rl_B} : rl_pe (rl_hd B).2.2.2.1 B.reverse = rl_all B := by
  unfold rl_pe rl_all
  rw [List.filter_reverse, List.map_reverse, List.sum_reverse]
  rfl
def cl_R (σ τ : pm_S) (P : Nat → Int32) (N b : Nat) : Prop := τ.1 = σ.1 ∧ τ.2.1 = σ.2.1 ∧ (∀ k, k ≠ 30 → τ.2.2 k = σ.2.2 k) ∧ (∀ j, j < b → τ.2.2 30 (9 + j) = P j) ∧ ∀ j, b ≤ j → j < N → τ.2.2 30 (9 + j) = -1
def cl_P (B : List rl_B) (j : Nat) : Int32 := (rl_pl (rl_hd B).2.2.2.1 B.reverse).getD j (-1)
theorem cb117l {d : Nat} {σ : pm_S} {Q : Option Value → pm_S → Prop} {l : List pg_N} {NN : Nat} {B : List rl_B} (h : cb_I l NN B σ) (hkb : ∀ y ∈ B, y.1 < 2 ^ 20) : ∀ (n b beh : Nat) (τ : pm_S), b + n = B.length → cl_R σ τ (cl_P B) B.length b → (∀ j, cl_P B (b + j) = (rl_pl beh (B.reverse.drop b)).getD j (-1)) → rl_pe beh (B.reverse.drop b) = rl_all B → (∀ τ', cl_R σ τ' (cl_P B) B.length B.length → Q none (pm_pi τ' 5 9 (nI (rl_all B)))) → pm_WP pm_Y0 (pm_call pm_Y0 (d + 1)) 5 prog_2_method_19_code none Q 23 [.ref 5, .int (nI beh), .int (nI (9 + b))] [] τ := by
  have hB := h.1
  have eC := nI_toInt (n := 9 + B.length) (by omega)
  intro n
  induction n with
  | zero =>
    intro b beh τ hb hR _ hE hQ
    have : b = B.length := by omega
    subst this
    have hc : τ.1 5 8 = nI (9 + B.length) := by rw [hR.1]; exact h.2.1
    have e0 : beh = rl_all B := by
      rw [List.drop_eq_nil_of_le (by rw [List.length_reverse]; exact Nat.le_refl _)] at hE
      exact hE
    rw [← e0] at hQ
    refine wq_l 24 d117_23 rfl rfl rfl rfl ?_
    refine wq_l 25 d117_24 rfl rfl rfl rfl ?_
    refine wq_gf (ci := 5) (j := 8) (f := 0) (v := .int (nI (9 + B.length))) 28 d117_25 rfl rfl rfl (congrArg Value.int (hc)) rfl ?_
    refine wq_b 83 31 d117_28 rfl (by decide) rfl (fun c28 => ?_) (fun c28 => absurd (by rw [i_le]; omega) c28)
    refine wq_l 84 d117_83 rfl rfl rfl rfl ?_
    refine wq_l 85 d117_84 rfl rfl rfl rfl ?_
    refine wq_pf (ci := 5) (j := 9) 88 d117_85 rfl rfl rfl ⟨rfl, rfl⟩ rfl ?_
    refine wq_rv d117_88 ?_
    exact hQ _ hR
  | succ n ih =>
    intro b beh τ hb hR hP hE hQ
    have hc : τ.1 5 8 = nI (9 + B.length) := by rw [hR.1]; exact h.2.1
    have eb := nI_toInt (n := 9 + b) (by omega)
    have ecl := nI_clamp (n := 9 + b) (by omega)
    have hbl : b < B.reverse.length := by rw [List.length_reverse]; omega
    have ey : rl_blk B b = some (B.reverse[b]'hbl) := List.getElem?_eq_getElem hbl
    have hd := List.drop_eq_getElem_cons hbl
    rw [hd] at hP hE
    rw [rl_pec] at hE
    have hy : (B.reverse[b]'hbl) ∈ B := List.mem_reverse.mp (List.getElem_mem hbl)
    generalize B.reverse[b]'hbl = y at *
    have k1 : τ.2.2 28 (9 + b) = nI y.1 := by rw [hR.2.2.1 28 (by decide)]; exact (h.2.2.2.2.1 b y ey).1
    have f1 : τ.2.2 29 (9 + b) = nI y.2.2.2.1 := by rw [hR.2.2.1 29 (by decide)]; exact (h.2.2.2.2.1 b y ey).2.1
    have kb := hkb y hy
    have pb : cl_P B b = (if y.1 = 3 then 0 else if y.1 = 1 then nI beh else -1) := hP 0
    have hP' : ∀ j, cl_P B (b + 1 + j) = (rl_pl (if y.1 = 1 then beh + y.2.2.2.1 else beh) (B.reverse.drop (b + 1))).getD j (-1) := fun j => by
      have := hP (j + 1)
      rw [show b + (j + 1) = b + 1 + j by omega] at this
      exact this
    have st : ∀ v : Int32, v = cl_P B b → cl_R σ (pm_pr τ 30 (upd (τ.2.2 30) (9 + b) v)) (cl_P B) B.length (b + 1) := fun v hv => by
      refine ⟨hR.1, hR.2.1, fun k hk => (pm_rne hk).trans (hR.2.2.1 k hk), fun j hj => ?_, fun j hj hj2 => ?_⟩
      · rw [pm_req, upd_if]
        by_cases w : j = b
        · rw [if_pos (by omega), hv, w]
        · rw [if_neg (by omega)]; exact hR.2.2.2.1 j (by omega)
      · rw [pm_req, upd_if, if_neg (by omega)]; exact hR.2.2.2.2 j (by omega) hj2
    have sn : cl_P B b = -1 → cl_R σ τ (cl_P B) B.length (b + 1) := fun z => by
      refine ⟨hR.1, hR.2.1, hR.2.2.1, fun j hj => ?_, fun j hj hj2 => hR.2.2.2.2 j (by omega) hj2⟩
      by_cases w : j = b
      · rw [w, z]; exact hR.2.2.2.2 b (Nat.le_refl _) (by omega)
      · exact hR.2.2.2.1 j (by omega)
    refine wq_l 24 d117_23 rfl rfl rfl rfl ?_
    refine wq_l 25 d117_24 rfl rfl rfl rfl ?_
    refine wq_gf (ci := 5) (j := 8) (f := 0) (v := .int (nI (9 + B.length))) 28 d117_25 rfl rfl rfl (congrArg Value.int (hc)) rfl ?_
    refine wq_b 83 31 d117_28 rfl (by decide) rfl (fun c28 => absurd c28 (by rw [i_le, eC, eb]; omega)) (fun c28 => ?_)
    refine wq_l 32 d117_31 rfl rfl rfl rfl ?_
    refine wq_gr (ci := 5) (j := 2) (q := 28) 35 d117_32 rfl rfl rfl rfl ?_
    refine wq_l 36 d117_35 rfl rfl rfl rfl ?_
    refine wq_al 37 d117_36 rfl rfl rfl (vp_in_iff.mpr (by rw [eb]; omega)) ?_
    rw [ecl, k1]
    refine wq_k 38 3 d117_37 (by decide) rfl ?_
    refine wq_b 51 41 d117_38 rfl (by decide) rfl (fun c38 => ?_) (fun c38 => ?_)
    · -- pc 51
      refine wq_l 52 d117_51 rfl rfl rfl rfl ?_
      refine wq_gr (ci := 5) (j := 2) (q := 28) 55 d117_52 rfl rfl rfl rfl ?_
      refine wq_l 56 d117_55 rfl rfl rfl rfl ?_
      refine wq_al 57 d117_56 rfl rfl rfl (vp_in_iff.mpr (by rw [eb]; omega)) ?_
      rw [ecl, k1]
      refine wq_k 58 1 d117_57 (by decide) rfl ?_
      refine wq_b 77 61 d117_58 rfl (by decide) rfl (fun c58 => ?_) (fun c58 => ?_)
      · -- pc 77
        refine wq_i 80 d117_77 rfl rfl rfl ?_
        refine wq_g 23 d117_80 (by decide) ?_
        rw [show nI (9 + b) + Int32.ofInt 1 = nI (9 + (b + 1)) from nI_1 (9 + b)]
        have c38 : ¬ y.1 = 3 := fun z => c38 (by rw [z]; rfl)
        have c58 : ¬ y.1 = 1 := fun z => c58 (by rw [z]; rfl)
        rw [if_neg c58] at hP' hE
        exact ih (b + 1) beh _ (by omega) (sn (by rw [pb, if_neg c38, if_neg c58])) hP' hE hQ
      · -- pc 61
        refine wq_l 62 d117_61 rfl rfl rfl rfl ?_
        refine wq_gr (ci := 5) (j := 4) (q := 30) 65 d117_62 rfl rfl rfl rfl ?_
        refine wq_l 66 d117_65 rfl rfl rfl rfl ?_
        refine wq_l 67 d117_66 rfl rfl rfl rfl ?_
        refine wq_as 68 d117_67 rfl rfl rfl (vp_in_iff.mpr (by rw [eb]; omega)) ?_
        rw [ecl]
        refine wq_l 69 d117_68 rfl rfl rfl rfl ?_
        refine wq_l 70 d117_69 rfl rfl rfl rfl ?_
        refine wq_gr (ci := 5) (j := 3) (q := 29) 73 d117_70 rfl rfl rfl rfl ?_
        refine wq_l 74 d117_73 rfl rfl rfl rfl ?_
        refine wq_al 75 d117_74 rfl rfl rfl (vp_in_iff.mpr (by rw [eb]; omega)) ?_
        rw [ecl]
        rw [show (pm_pr τ 30 (upd (τ.2.2 30) (9 + b) (pm_nr 0 (nI beh)))).2.2 29 (9 + b) = nI y.2.2.2.1 from f1]
        refine wq_a 76 d117_75 rfl rfl ?_
        rw [nI_add]
        refine wq_s 77 d117_76 rfl rfl (Nat.le_of_ble_eq_true rfl) rfl rfl ?_
        refine wq_i 80 d117_77 rfl rfl rfl ?_
        refine wq_g 23 d117_80 (by decide) ?_
        rw [show nI (9 + b) + Int32.ofInt 1 = nI (9 + (b + 1)) from nI_1 (9 + b)]
        have c58 : y.1 = 1 := hp_inj (by omega) (by decide) (Classical.not_not.mp c58)
        rw [if_pos c58] at hP' hE
        exact ih (b + 1) (beh + y.2.2.2.1) _ (by omega) (st (nI beh) (by rw [pb, if_neg (by omega), if_pos c58])) hP' hE hQ
    · -- pc 41
      refine wq_l 42 d117_41 rfl rfl rfl rfl ?_
      refine wq_gr (ci := 5) (j := 4) (q := 30) 45 d117_42 rfl rfl rfl rfl ?_
      refine wq_l 46 d117_45 rfl rfl rfl rfl ?_
      refine wq_k 47 0 d117_46 (by decide) rfl ?_
      refine wq_as 48 d117_47 rfl rfl rfl (vp_in_iff.mpr (by rw [eb]; omega)) ?_
      rw [ecl]
      refine wq_g 77 d117_48 (by decide) ?_
      refine wq_i 80 d117_77 rfl rfl rfl ?_
      refine wq_g 23 d117_80 (by decide) ?_
      rw [show nI (9 + b) + Int32.ofInt 1 = nI (9 + (b + 1)) from nI_1 (9 + b)]
      have c38 : y.1 = 3 := hp_inj (by omega) (by decide) (Classical.not_not.mp c38)
      rw [if_neg (by omega)] at hP' hE
      exact ih (b + 1) beh _ (by omega) (st 0 (by rw [pb, if_pos c38])) hP' hE hQ
theorem cb117 {d : Nat} {σ : pm_S} {Q : Option Value → pm_S → Prop} {l : List pg_N} {NN : Nat} {B : List rl_B} (h : cb_I l NN B σ) (hB : B ≠ []) (h3 : (rl_hd B).1 = 3) (hkb : ∀ y ∈ B, y.1 < 2 ^ 20) (hQ : ∀ τ', cl_R σ τ' (cl_P B) B.length B.length → Q none (pm_pi τ' 5 9 (nI (rl_all B)))) : pm_call pm_Y0 (d + 2) 117 [.ref 5] σ Q := by
  have hlen := rl_len hB
  have e9 : 8 + B.length = 9 + (B.length - 1) := by omega
  have r0 : cl_R σ σ (cl_P B) B.length 0 := ⟨rfl, rfl, fun _ _ => rfl, fun j hj => absurd hj (Nat.not_lt_zero _), fun j _ w => by
    have hl : j < B.reverse.length := by rw [List.length_reverse]; exact w
    exact (h.2.2.2.2.1 j _ (List.getElem?_eq_getElem hl)).2.2.1⟩
  refine wq_m m117 (Nat.le_of_ble_eq_true rfl) (by decide) rfl ?_
  refine wq_l 1 d117_0 rfl rfl rfl rfl ?_
  refine wq_gf (ci := 5) (j := 10) (f := 0) (v := .int (b2 (decide ((rl_hd B).1 = 3)))) 4 d117_1 rfl rfl rfl (congrArg Value.int (h.2.2.1)) rfl ?_
  refine wq_b 18 7 d117_4 rfl (by decide) rfl (fun c4 => absurd c4 (by rw [decide_eq_true h3]; decide)) (fun c4 => ?_)
  refine wq_l 8 d117_7 rfl rfl rfl rfl ?_
  refine wq_l 9 d117_8 rfl rfl rfl rfl ?_
  refine wq_v 12 [] d117_9 rfl rfl m116 rfl rfl (Nat.le_of_ble_eq_true rfl) rfl (cb116 h hB ?_)
  rw [e9]
  refine wq_v 15 [_] d117_12 rfl rfl m118 rfl rfl (Nat.le_of_ble_eq_true rfl) rfl (cb118 h (rl_blkh hB) ?_)
  refine wq_g 19 d117_15 (by decide) ?_
  refine wq_s 20 d117_19 rfl rfl (Nat.le_of_ble_eq_true rfl) rfl rfl ?_
  refine wq_k 22 9 d117_20 (by decide) rfl ?_
  refine wq_s 23 d117_22 rfl rfl (Nat.le_of_ble_eq_true rfl) rfl rfl ?_
  exact cb117l h hkb B.length 0 (rl_hd B).2.2.2.1 σ (by omega) r0 (fun j => by rw [Nat.zero_add, List.drop_zero]; rfl) (by rw [List.drop_zero]; exact rl_peall) hQ
def cr_E (l : List pg_N) (σ0 σ : pm_S) (A : rl_A) : Prop := cc_F σ0 σ ∧ ct_D l l.length A σ ∧ A.1.length ≤ 409 ∧ σ.1 5 8 = nI (9 + A.1.length) ∧ σ.1 5 9 = nI (rl_all A.1) ∧ (∀ b y, rl_blk A.1 b = some y → σ.2.2 29 (9 + b) = nI y.2.2.2.1) ∧ ∀ b, b < A.1.length → σ.2.2 30 (9 + b) = cl_P A.1 b
theorem cr145 {d : Nat} {l : List pg_N} {NN : Nat} {σ0 σ : pm_S} {A : rl_A} {Q : Option Value → pm_S → Prop} (h : cr_I l NN σ0 σ l.length A) (hp : pv_B A.1) (hall : rl_all A.1 < 2 ^ 30) (hQ : ∀ σ', cc_F σ0 σ' → σ'.1 5 8 = nI (9 + A.1.length) → ((if A.1 = [] ∨ (rl_cur A).1 ≠ 3 then 10 else if 8192 < rl_all A.1 then 42 else 0) = 0 → cr_E l σ0 σ' A) → Q (some (.int (nI (if A.1 = [] ∨ (rl_cur A).1 ≠ 3 then 10 else if 8192 < rl_all A.1 then 42 else 0)))) σ') : pm_call pm_Y0 (d + 3) 145 [.ref 7] σ Q := by
  have ea := nI_toInt (n := rl_all A.1) (by omega)
  have hkb : ∀ y ∈ A.1, y.1 < 2 ^ 20 := fun y hy => by
    obtain ⟨b, hb⟩ := List.getElem?_of_mem (List.mem_reverse.mpr hy)
    obtain ⟨r, _, hY⟩ := pv_blk hp (b := b) (y := y) hb
    have := hY.1.2
    omega
  refine wq_m m145 (Nat.le_of_ble_eq_true rfl) (by decide) rfl ?_
  refine wq_l 1 d145_0 rfl rfl rfl rfl ?_
  refine wq_gr (ci := 7) (j := 2) (q := 5) 4 d145_1 rfl rfl rfl rfl ?_
  refine wq_v 7 [] d145_4 rfl rfl m114 rfl rfl (Nat.le_of_ble_eq_true rfl) rfl (cb114 h.2.2.2.2.1 ?_)
  refine wq_b 13 10 d145_7 rfl (by decide) rfl (fun c7 => ?_) (fun c7 => ?_)
  · -- pc 13
    have f7 : (rl_cur A).1 = 3 := of_decide_eq_true (b2n c7)
    have hB : A.1 ≠ [] := fun z => by unfold rl_cur at f7; rw [z] at f7; exact absurd f7 (by decide)
    refine wq_l 14 d145_13 rfl rfl rfl rfl ?_
    refine wq_gr (ci := 7) (j := 2) (q := 5) 17 d145_14 rfl rfl rfl rfl ?_
    refine wq_v 20 [] d145_17 rfl rfl m117 rfl rfl (Nat.le_of_ble_eq_true rfl) rfl (cb117 h.2.2.2.2.1 hB f7 hkb (fun τ hR => ?_))
    refine wq_l 21 d145_20 rfl rfl rfl rfl ?_
    refine wq_gr (ci := 7) (j := 2) (q := 5) 24 d145_21 rfl rfl rfl rfl ?_
    refine wq_v 27 [] d145_24 rfl rfl m119 rfl rfl (Nat.le_of_ble_eq_true rfl) rfl (cb119 ?_)
    rw [show (pm_pi τ 5 9 (nI (rl_all A.1))).1 5 9 = nI (rl_all A.1) from rfl]
    refine wq_k 30 8192 d145_27 (by decide) rfl ?_
    refine wq_b 38 33 d145_30 rfl (by decide) rfl (fun c30 => ?_) (fun c30 => ?_)
    · -- pc 38
      refine wq_k 39 0 d145_38 (by decide) rfl ?_
      refine wq_ri d145_39 (rfl) ?_
      have cF : cc_F σ0 (pm_pi τ 5 9 (nI (rl_all A.1))) := by
        refine cc_pi ⟨fun a b => by rw [hR.1]; exact h.2.2.1.1 a b, hR.2.1.trans h.2.2.1.2.1, fun k => ?_⟩ (Or.inl ⟨rfl, by decide⟩)
        by_cases w : k = 30
        · left; omega
        · rw [hR.2.2.1 k w]; exact h.2.2.1.2.2 k
      have c8 : (pm_pi τ 5 9 (nI (rl_all A.1))).1 5 8 = nI (9 + A.1.length) := by
        show τ.1 5 8 = _
        rw [hR.1]; exact h.2.2.2.2.1.2.1
      have cE : cr_E l σ0 (pm_pi τ 5 9 (nI (rl_all A.1))) A := by
        refine ⟨cF, ct_x h.2.2.2.1 (fun q q1 q2 => hR.2.2.1 q (by omega)), h.2.2.2.2.1.1, c8, rfl, fun b y hb => ?_, fun b hb => hR.2.2.2.1 b hb⟩
        show τ.2.2 29 (9 + b) = _
        rw [hR.2.2.1 29 (by decide)]; exact (h.2.2.2.2.1.2.2.2.2.1 b y hb).2.1
      rw [if_neg (fun z => z.elim (fun w => hB w) (fun w => w f7))] at hQ
      rw [if_neg (by rw [i_le, ea] at c30; have c30 : (_ : Int) ≤ 8192 := c30; omega)] at hQ
      exact hQ _ cF c8 (fun _ => cE)
    · -- pc 33
      refine wq_k 35 42 d145_33 (by decide) rfl ?_
      refine wq_g 39 d145_35 (by decide) ?_
      refine wq_ri d145_39 (rfl) ?_
      have cF : cc_F σ0 (pm_pi τ 5 9 (nI (rl_all A.1))) := by
        refine cc_pi ⟨fun a b => by rw [hR.1]; exact h.2.2.1.1 a b, hR.2.1.trans h.2.2.1.2.1, fun k => ?_⟩ (Or.inl ⟨rfl, by decide⟩)
        by_cases w : k = 30
        · left; omega
        · rw [hR.2.2.1 k w]; exact h.2.2.1.2.2 k
      have c8 : (pm_pi τ 5 9 (nI (rl_all A.1))).1 5 8 = nI (9 + A.1.length) := by
        show τ.1 5 8 = _
        rw [hR.1]; exact h.2.2.2.2.1.2.1
      have cE : cr_E l σ0 (pm_pi τ 5 9 (nI (rl_all A.1))) A := by
        refine ⟨cF, ct_x h.2.2.2.1 (fun q q1 q2 => hR.2.2.1 q (by omega)), h.2.2.2.2.1.1, c8, rfl, fun b y hb => ?_, fun b hb => hR.2.2.2.1 b hb⟩
        show τ.2.2 29 (9 + b) = _
        rw [hR.2.2.1 29 (by decide)]; exact (h.2.2.2.2.1.2.2.2.2.1 b y hb).2.1
      rw [if_neg (fun z => z.elim (fun w => hB w) (fun w => w f7))] at hQ
      rw [if_pos (by rw [i_le, ea] at c30; have c30 : ¬ (_ : Int) ≤ 8192 := c30; omega)] at hQ
      exact hQ _ cF c8 (fun _ => cE)
  · -- pc 10
    have f7 : ¬ (rl_cur A).1 = 3 := of_decide_eq_false (b2y c7)
    refine wq_k 12 10 d145_10 (by decide) rfl ?_
    refine wq_ri d145_12 (rfl) ?_
    rw [if_pos (Or.inr f7)] at hQ
    exact hQ _ h.2.2.1 h.2.2.2.2.1.2.1 (fun z => absurd (show (10 : Nat) = 0 from z) (by decide))
