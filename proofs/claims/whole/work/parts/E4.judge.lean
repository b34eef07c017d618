theorem d126_0 : decode prog_2_method_6_code 0 = .ok (.aload_n 0, 1) := by decide +kernel
theorem d126_1 : decode prog_2_method_6_code 1 = .ok (.getfield 42, 3) := by decide +kernel
theorem d126_4 : decode prog_2_method_6_code 4 = .ok (.bipush 9, 2) := by decide +kernel
theorem d126_6 : decode prog_2_method_6_code 6 = .ok (.isub, 1) := by decide +kernel
theorem d126_7 : decode prog_2_method_6_code 7 = .ok (.iconst 0, 1) := by decide +kernel
theorem d126_8 : decode prog_2_method_6_code 8 = .ok (.invokestatic 72, 3) := by decide +kernel
theorem d126_11 : decode prog_2_method_6_code 11 = .ok (.ireturn, 1) := by decide +kernel
theorem m126 : pm_m 126 = some (⟨"TypeRules$Blocks", "ownCount", "()I"⟩, prog_2_method_6_code, 1, (some FieldType.int), 5, 0, 6) := rfl
theorem d162_0 : decode prog_7_method_2_code 0 = .ok (.aload_n 0, 1) := by decide +kernel
theorem d162_1 : decode prog_7_method_2_code 1 = .ok (.getfield 52, 3) := by decide +kernel
theorem d162_4 : decode prog_7_method_2_code 4 = .ok (.ireturn, 1) := by decide +kernel
theorem m162 : pm_m 162 = some (⟨"TypeRules$Rules", "placeOfFault", "()I"⟩, prog_7_method_2_code, 1, (some FieldType.int), 7, 0, 8) := rfl
theorem d5_0 : decode prog_1_method_5_code 0 = .ok (.aload_n 0, 1) := by decide +kernel
theorem d5_1 : decode prog_1_method_5_code 1 = .ok (.iconst 0, 1) := by decide +kernel
theorem d5_2 : decode prog_1_method_5_code 2 = .ok (.putfield 67, 3) := by decide +kernel
theorem d5_5 : decode prog_1_method_5_code 5 = .ok (.aload_n 0, 1) := by decide +kernel
theorem d5_6 : decode prog_1_method_5_code 6 = .ok (.iconst 0, 1) := by decide +kernel
theorem d5_7 : decode prog_1_method_5_code 7 = .ok (.putfield 70, 3) := by decide +kernel
theorem d5_10 : decode prog_1_method_5_code 10 = .ok (.aload_n 0, 1) := by decide +kernel
theorem d5_11 : decode prog_1_method_5_code 11 = .ok (.iconst 0, 1) := by decide +kernel
theorem d5_12 : decode prog_1_method_5_code 12 = .ok (.putfield 73, 3) := by decide +kernel
theorem d5_15 : decode prog_1_method_5_code 15 = .ok (.aload_n 0, 1) := by decide +kernel
theorem d5_16 : decode prog_1_method_5_code 16 = .ok (.iconst (-1), 1) := by decide +kernel
theorem d5_17 : decode prog_1_method_5_code 17 = .ok (.putfield 64, 3) := by decide +kernel
theorem d5_20 : decode prog_1_method_5_code 20 = .ok (.aload_n 0, 1) := by decide +kernel
theorem d5_21 : decode prog_1_method_5_code 21 = .ok (.getfield 21, 3) := by decide +kernel
theorem d5_24 : decode prog_1_method_5_code 24 = .ok (.aload_n 0, 1) := by decide +kernel
theorem d5_25 : decode prog_1_method_5_code 25 = .ok (.getfield 57, 3) := by decide +kernel
theorem d5_28 : decode prog_1_method_5_code 28 = .ok (.invokevirtual 80, 3) := by decide +kernel
theorem d5_31 : decode prog_1_method_5_code 31 = .ok (.aload_n 0, 1) := by decide +kernel
theorem d5_32 : decode prog_1_method_5_code 32 = .ok (.aload_n 0, 1) := by decide +kernel
theorem d5_33 : decode prog_1_method_5_code 33 = .ok (.getfield 37, 3) := by decide +kernel
theorem d5_36 : decode prog_1_method_5_code 36 = .ok (.invokevirtual 83, 3) := by decide +kernel
theorem d5_39 : decode prog_1_method_5_code 39 = .ok (.putfield 61, 3) := by decide +kernel
theorem d5_42 : decode prog_1_method_5_code 42 = .ok (.aload_n 0, 1) := by decide +kernel
theorem d5_43 : decode prog_1_method_5_code 43 = .ok (.getfield 61, 3) := by decide +kernel
theorem d5_46 : decode prog_1_method_5_code 46 = .ok (.ifCond .eq 19, 3) := by decide +kernel
theorem d5_49 : decode prog_1_method_5_code 49 = .ok (.aload_n 0, 1) := by decide +kernel
theorem d5_50 : decode prog_1_method_5_code 50 = .ok (.aload_n 0, 1) := by decide +kernel
theorem d5_51 : decode prog_1_method_5_code 51 = .ok (.getfield 21, 3) := by decide +kernel
theorem d5_54 : decode prog_1_method_5_code 54 = .ok (.invokevirtual 87, 3) := by decide +kernel
theorem d5_57 : decode prog_1_method_5_code 57 = .ok (.putfield 64, 3) := by decide +kernel
theorem d5_60 : decode prog_1_method_5_code 60 = .ok (.aload_n 0, 1) := by decide +kernel
theorem d5_61 : decode prog_1_method_5_code 61 = .ok (.getfield 61, 3) := by decide +kernel
theorem d5_64 : decode prog_1_method_5_code 64 = .ok (.ireturn, 1) := by decide +kernel
theorem d5_65 : decode prog_1_method_5_code 65 = .ok (.aload_n 0, 1) := by decide +kernel
theorem d5_66 : decode prog_1_method_5_code 66 = .ok (.aload_n 0, 1) := by decide +kernel
theorem d5_67 : decode prog_1_method_5_code 67 = .ok (.getfield 53, 3) := by decide +kernel
theorem d5_70 : decode prog_1_method_5_code 70 = .ok (.invokevirtual 90, 3) := by decide +kernel
theorem d5_73 : decode prog_1_method_5_code 73 = .ok (.putfield 61, 3) := by decide +kernel
theorem d5_76 : decode prog_1_method_5_code 76 = .ok (.aload_n 0, 1) := by decide +kernel
theorem d5_77 : decode prog_1_method_5_code 77 = .ok (.getfield 61, 3) := by decide +kernel
theorem d5_80 : decode prog_1_method_5_code 80 = .ok (.ifCond .eq 19, 3) := by decide +kernel
theorem d5_83 : decode prog_1_method_5_code 83 = .ok (.aload_n 0, 1) := by decide +kernel
theorem d5_84 : decode prog_1_method_5_code 84 = .ok (.aload_n 0, 1) := by decide +kernel
theorem d5_85 : decode prog_1_method_5_code 85 = .ok (.getfield 53, 3) := by decide +kernel
theorem d5_88 : decode prog_1_method_5_code 88 = .ok (.invokevirtual 93, 3) := by decide +kernel
theorem d5_91 : decode prog_1_method_5_code 91 = .ok (.putfield 64, 3) := by decide +kernel
theorem d5_94 : decode prog_1_method_5_code 94 = .ok (.aload_n 0, 1) := by decide +kernel
theorem d5_95 : decode prog_1_method_5_code 95 = .ok (.getfield 61, 3) := by decide +kernel
theorem d5_98 : decode prog_1_method_5_code 98 = .ok (.ireturn, 1) := by decide +kernel
theorem d5_99 : decode prog_1_method_5_code 99 = .ok (.aload_n 0, 1) := by decide +kernel
theorem d5_100 : decode prog_1_method_5_code 100 = .ok (.aload_n 0, 1) := by decide +kernel
theorem d5_101 : decode prog_1_method_5_code 101 = .ok (.getfield 28, 3) := by decide +kernel
theorem d5_104 : decode prog_1_method_5_code 104 = .ok (.invokevirtual 96, 3) := by decide +kernel
theorem d5_107 : decode prog_1_method_5_code 107 = .ok (.putfield 67, 3) := by decide +kernel
theorem d5_110 : decode prog_1_method_5_code 110 = .ok (.aload_n 0, 1) := by decide +kernel
theorem d5_111 : decode prog_1_method_5_code 111 = .ok (.aload_n 0, 1) := by decide +kernel
theorem d5_112 : decode prog_1_method_5_code 112 = .ok (.getfield 44, 3) := by decide +kernel
theorem d5_115 : decode prog_1_method_5_code 115 = .ok (.invokevirtual 99, 3) := by decide +kernel
theorem d5_118 : decode prog_1_method_5_code 118 = .ok (.putfield 70, 3) := by decide +kernel
theorem d5_121 : decode prog_1_method_5_code 121 = .ok (.aload_n 0, 1) := by decide +kernel
theorem d5_122 : decode prog_1_method_5_code 122 = .ok (.aload_n 0, 1) := by decide +kernel
theorem d5_123 : decode prog_1_method_5_code 123 = .ok (.getfield 44, 3) := by decide +kernel
theorem d5_126 : decode prog_1_method_5_code 126 = .ok (.invokevirtual 102, 3) := by decide +kernel
theorem d5_129 : decode prog_1_method_5_code 129 = .ok (.putfield 73, 3) := by decide +kernel
theorem d5_132 : decode prog_1_method_5_code 132 = .ok (.iconst 0, 1) := by decide +kernel
theorem d5_133 : decode prog_1_method_5_code 133 = .ok (.ireturn, 1) := by decide +kernel
/-! JUDGE of the class -/
theorem sp46 {d : Nat} {σ : pm_S} {Q : Option Value → pm_S → Prop} {j p : Nat} (h9 : σ.1 2 9 = nI j) (hj : j < 8193) (h17 : σ.2.2 17 j = nI p) (hQ : Q (some (.int (nI p))) σ) : pm_call pm_Y0 (d + 1) 46 [.ref 2] σ Q := by
  have ej := nI_toInt (n := j) (by omega)
  have ec := nI_clamp (n := j) (by omega)
  refine wq_m m46 (Nat.le_of_ble_eq_true rfl) (by decide) rfl ?_
  refine wq_l 1 d46_0 rfl rfl rfl rfl ?_
  refine wq_gr (ci := 2) (j := 3) (q := 17) 4 d46_1 rfl rfl rfl rfl ?_
  refine wq_l 5 d46_4 rfl rfl rfl rfl ?_
  refine wq_gf (ci := 2) (j := 9) (f := 0) (v := .int (nI j)) 8 d46_5 rfl rfl rfl (congrArg Value.int (h9)) rfl ?_
  refine wq_al 9 d46_8 rfl rfl rfl (vp_in_iff.mpr (by rw [ej]; omega)) ?_
  rw [ec, h17]
  refine wq_ri d46_9 (rfl) ?_
  exact hQ
theorem sp60 {d : Nat} {σ : pm_S} {Q : Option Value → pm_S → Prop} (hQ : Q (some (.int (σ.1 3 8))) σ) : pm_call pm_Y0 (d + 1) 60 [.ref 3] σ Q := by
  refine wq_m m60 (Nat.le_of_ble_eq_true rfl) (by decide) rfl ?_
  refine wq_l 1 d60_0 rfl rfl rfl rfl ?_
  refine wq_gi (ci := 3) (j := 8) 4 d60_1 rfl rfl rfl rfl ?_
  refine wq_ri d60_4 (rfl) ?_
  exact hQ
theorem sp162 {d : Nat} {σ : pm_S} {Q : Option Value → pm_S → Prop} (hQ : Q (some (.int (σ.1 7 7))) σ) : pm_call pm_Y0 (d + 1) 162 [.ref 7] σ Q := by
  refine wq_m m162 (Nat.le_of_ble_eq_true rfl) (by decide) rfl ?_
  refine wq_l 1 d162_0 rfl rfl rfl rfl ?_
  refine wq_gi (ci := 7) (j := 7) 4 d162_1 rfl rfl rfl rfl ?_
  refine wq_ri d162_4 (rfl) ?_
  exact hQ
theorem sp126 {d : Nat} {σ : pm_S} {Q : Option Value → pm_S → Prop} {N : Nat} (h8 : σ.1 5 8 = nI (9 + N)) (hN : N ≤ 409) (hQ : Q (some (.int (nI N))) σ) : pm_call pm_Y0 (d + 1) 126 [.ref 5] σ Q := by
  have e : nI (9 + N) - 9 = nI N := (nI_sbl (b := 9) (by omega)).trans (congrArg nI (by omega))
  have en := nI_toInt (n := N) (by omega)
  refine wq_m m126 (Nat.le_of_ble_eq_true rfl) (by decide) rfl ?_
  refine wq_l 1 d126_0 rfl rfl rfl rfl ?_
  refine wq_gf (ci := 5) (j := 8) (f := 0) (v := .int (nI (9 + N))) 4 d126_1 rfl rfl rfl (congrArg Value.int (h8)) rfl ?_
  refine wq_k 6 9 d126_4 (by decide) rfl ?_
  refine wq_a 7 d126_6 rfl rfl ?_
  rw [e]
  refine wq_k 8 0 d126_7 (by decide) rfl ?_
  refine wq_mx 11 d126_8 rfl (by decide) rfl ?_
  rw [if_neg (show ¬ nI N < 0 by rw [i_lt, en]; show ¬ _ < (0 : Int); omega)]
  refine wq_ri d126_11 (rfl) ?_
  exact hQ
theorem nt_x {σ τ : pm_S} {ns : List (List Nat)} (h : nt_I σ 1 12 13 14 15 ns) (e4 : τ.1 1 4 = σ.1 1 4) (e : ∀ k, 12 ≤ k → k ≤ 15 → τ.2.2 k = σ.2.2 k) : nt_I τ 1 12 13 14 15 ns := by
  unfold nt_I nm_I nm_S at *
  rw [e4, e 12 (by omega) (by omega), e 13 (by omega) (by omega), e 14 (by omega) (by omega), e 15 (by omega) (by omega)]
  exact h
/-- what judge of the class leaves alone -/
def cj_F (σ τ : pm_S) : Prop := (∀ b, τ.1 10 b = σ.1 10 b) ∧ τ.1 0 6 = σ.1 0 6 ∧ (∀ k b, k ≠ 2 → τ.2.1 k b = σ.2.1 k b) ∧ ∀ k, k = 11 ∨ 42 < k → τ.2.2 k = σ.2.2 k
theorem cj_t {a b c : pm_S} (h : cj_F a b) (g : cj_F b c) : cj_F a c := ⟨fun x => (g.1 x).trans (h.1 x), g.2.1.trans h.2.1, fun k x hk => (g.2.2.1 k x hk).trans (h.2.2.1 k x hk), fun k hk => (g.2.2.2 k hk).trans (h.2.2.2 k hk)⟩
theorem cj_pi {σ : pm_S} {b : Nat} {x : Int32} (hb : b ≠ 6) : cj_F σ (pm_pi σ 0 b x) := by
  refine ⟨fun c => ?_, ?_, fun _ _ _ => rfl, fun _ _ => rfl⟩
  · simp [pm_pi]
  · simp [pm_pi, Ne.symm hb]
theorem cj_lx {σ τ : pm_S} {t : Nat → Nat} {M n : Nat} (h : lx_P σ τ t M n) : cj_F σ τ := by
  obtain ⟨_, _, _, _, _, _, _, _, _, _, h1, h2, h3⟩ := h
  exact ⟨fun b => h1 10 b (by decide) (by decide), h1 0 6 (by decide) (by decide), fun k b hk => h2 k b (fun z => hk z.1), fun k hk => h3 k (by omega)⟩
theorem cj_pc {σ τ : pm_S} (h : pc_F σ τ) : cj_F σ τ := by
  obtain ⟨h1, h2, h3⟩ := h
  refine ⟨fun b => ?_, ?_, fun k b _ => by rw [h2], fun k hk => ?_⟩
  · rcases h1 10 b with w | w | w | w
    · exact absurd w.1 (by decide)
    · exact absurd w.1 (by decide)
    · exact absurd w.1 (by decide)
    · exact w
  · rcases h1 0 6 with w | w | w | w
    · exact absurd w.1 (by decide)
    · exact absurd w.1 (by decide)
    · exact absurd w.1 (by decide)
    · exact w
  · rcases h3 k with w | w
    · omega
    · exact w
theorem cj_cc {σ τ : pm_S} (h : cc_F σ τ) : cj_F σ τ := by
  obtain ⟨h1, h2, h3⟩ := h
  refine ⟨fun b => ?_, ?_, fun k b _ => by rw [h2], fun k hk => ?_⟩
  · rcases h1 10 b with w | w | w | w
    · exact absurd w.1 (by decide)
    · exact absurd w.1 (by decide)
    · exact absurd w.1 (by decide)
    · exact w
  · rcases h1 0 6 with w | w | w | w
    · exact absurd w.1 (by decide)
    · exact absurd w.1 (by decide)
    · exact absurd w.1 (by decide)
    · exact w
  · rcases h3 k with w | w
    · omega
    · exact w
theorem tx_1 (T : pg_T) : (pg_text T (0, 0, 0)).1 = tx_c T := by
  unfold pg_text pg_node tx_c
  generalize pg_M = K
  rfl
theorem tx_2 (T : pg_T) : (pg_text T (0, 0, 0)).2 = tx_l T := by
  unfold pg_text pg_node tx_l
  generalize pg_M = K
  rfl
/-- the tokens are there -/
theorem pc_Kx {σ τ : pm_S} {t : Nat → Nat} {M n : Nat} (hM : M ≤ 8192) (h : lx_P σ τ t M n) : pc_K (pt_T t M n) n τ := by
  obtain ⟨p1, p2, p3, p4, p5, p6, p7, p8, p9, _⟩ := h
  have eT : ∀ j, j < n → (pt_T t M n).1 j = lx_k t M lx_ns j := fun j hj => if_pos hj
  refine ⟨p2, by omega, p5, fun j hj => ?_, fun j hj => ?_, fun j hj => ?_, fun j => ?_⟩
  · rw [eT j hj]; exact p9 j hj
  · rw [eT j (by omega)]
    have := p1 j (by omega)
    exact ⟨this.2, this.1⟩
  · by_cases w : j < n
    · rw [eT j w, show j = n - 1 by omega]
      omega
    · exact Or.inl (if_neg w)
  · by_cases w : j < n
    · rw [eT j w]
      by_cases u : j = n - 1
      · rw [u]; omega
      · have hb : lx_b t M j := fun i hi => p1 i (by omega)
        obtain ⟨J1, J2, J3⟩ := lx_at_J hM j hb
        obtain ⟨g1, g2⟩ := p1 j (by omega)
        have := lx_nx_e (t := t) (ns := (lx_at t M lx_ns j).2) hM J3 J1 g1 g2
        exact ⟨this.2.2.2.1, this.2.2.2.2.1⟩
    · rw [show (pt_T t M n).1 j = 44 from if_neg w]; decide
theorem tx_Z {σ : pm_S} {l : List pg_N} {NN : Nat} (hG : lg_G l NN) (h : tr_L σ l) : ct_Z l σ ∧ ∀ i, i < l.length → σ.2.2 24 i = -1 ∧ σ.2.2 25 i = -1 ∧ σ.2.2 26 i = -1 := by
  obtain ⟨h1, h2⟩ := h
  refine ⟨⟨hG.2.2.2.1, hG.1, h1, fun i hi => ?_⟩, fun i hi => ?_⟩
  · obtain ⟨a1, a2, a3, a4, _⟩ := h2 i _ (rl_xg hi)
    exact ⟨(lg_V hG hi).1, a1, a2, a3, a4⟩
  · obtain ⟨a1, a2, a3, a4, a5, a6, a7, a8⟩ := h2 i _ (rl_xg hi)
    exact ⟨a6, a7, a8⟩
/-- what judge says -/
def cj_f (T : pg_T) : Int32 := if pt_f T (tx_c T) ≠ 0 then pt_f T (tx_c T) else nI (rl_go (tx_l T)).1
def cju_R (t : Nat → Nat) (M n : Nat) (σ τ : pm_S) : Prop := cj_F σ τ ∧ nt_I τ 1 12 13 14 15 (lx_at t M lx_ns n).2 ∧ τ.1 0 7 = cj_f (pt_T t M n) ∧ (tx_c (pt_T t M n)).1 < n ∧
  ((pt_f (pt_T t M n) (tx_c (pt_T t M n)) ≠ 0 ∧ τ.1 0 8 = nI (lx_p t M lx_ns (tx_c (pt_T t M n)).1) ∧ τ.1 0 9 = 0 ∧ τ.1 0 10 = 0 ∧ τ.1 0 11 = 0 ∧ (∃ m, m ≤ 16386 ∧ τ.1 3 8 = nI m) ∧ τ.1 5 8 = σ.1 5 8) ∨
   (pt_f (pt_T t M n) (tx_c (pt_T t M n)) = 0 ∧ (rl_go (tx_l (pt_T t M n))).1 ≠ 0 ∧ τ.1 0 8 = nI (rl_x (tx_l (pt_T t M n)) (rl_go (tx_l (pt_T t M n))).2.1).2.1 ∧ τ.1 0 9 = 0 ∧ τ.1 0 10 = 0 ∧ τ.1 0 11 = 0 ∧ (∃ m, m ≤ 16386 ∧ τ.1 3 8 = nI m) ∧ ∃ c, c ≤ 418 ∧ τ.1 5 8 = nI c) ∨
   (pt_f (pt_T t M n) (tx_c (pt_T t M n)) = 0 ∧ (rl_go (tx_l (pt_T t M n))).1 = 0 ∧ τ.1 0 8 = -1 ∧ τ.1 0 9 = nI (tx_l (pt_T t M n)).length ∧ τ.1 0 10 = nI (rl_go (tx_l (pt_T t M n))).2.2.2.2.1.length ∧ τ.1 0 11 = nI (rl_all (rl_go (tx_l (pt_T t M n))).2.2.2.2.1) ∧ τ.1 3 8 = nI (tx_l (pt_T t M n)).length ∧ τ.1 5 8 = nI (9 + (rl_go (tx_l (pt_T t M n))).2.2.2.2.1.length) ∧ (rl_go (tx_l (pt_T t M n))).2.2.2.2.1.length ≤ 409 ∧ (∀ i, i < (tx_l (pt_T t M n)).length → τ.2.2 19 i = nI (rl_k (tx_l (pt_T t M n)) i) ∧ τ.2.2 24 i = (rl_go (tx_l (pt_T t M n))).2.2.2.2.2.1 i ∧ τ.2.2 25 i = (rl_go (tx_l (pt_T t M n))).2.2.2.2.2.2.1 i ∧ τ.2.2 26 i = (rl_go (tx_l (pt_T t M n))).2.2.2.2.2.2.2 i) ∧ (∀ b y, rl_blk (rl_go (tx_l (pt_T t M n))).2.2.2.2.1 b = some y → τ.2.2 29 (9 + b) = nI y.2.2.2.1) ∧ ∀ b, b < (rl_go (tx_l (pt_T t M n))).2.2.2.2.1.length → τ.2.2 30 (9 + b) = cl_P (rl_go (tx_l (pt_T t M n))).2.2.2.2.1 b))
theorem pt_f0 {t : Nat → Nat} {M n : Nat} (h : pt_f (pt_T t M n) (tx_c (pt_T t M n)) = 0) (hk : (pt_T t M n).1 (tx_c (pt_T t M n)).1 = 45 → ¬ nI ((pt_T t M n).2.2 (tx_c (pt_T t M n)).1) = 0) : pg_live (pt_T t M n) (tx_c (pt_T t M n)) ∧ (pt_T t M n).1 (tx_c (pt_T t M n)).1 = 44 := by
  generalize tx_c (pt_T t M n) = c at *
  unfold pt_f at h
  by_cases w : c.2.1 = 2
  · rw [if_pos w] at h; exact absurd h (by decide)
  rw [if_neg w] at h
  by_cases u : pg_is (pt_T t M n) 44 c = true
  · have u' : pg_k (pt_T t M n) c = 44 := beq_iff_eq.mp u
    have c0 : c.2.1 = 0 := by
      by_cases v : c.2.1 = 0
      · exact v
      · rw [show pg_k (pt_T t M n) c = 46 from if_neg v] at u'; exact absurd u' (by decide)
    rw [show pg_k (pt_T t M n) c = (pt_T t M n).1 c.1 from if_pos c0] at u'
    exact ⟨⟨c0, by rw [u']; decide⟩, u'⟩
  · rw [if_neg u] at h
    by_cases v : (pt_T t M n).1 c.1 = 45
    · rw [if_pos v] at h; exact absurd h (hk v)
    · rw [if_neg v] at h; exact absurd h (by decide)
