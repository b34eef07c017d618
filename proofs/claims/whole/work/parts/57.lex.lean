theorem d24_0 : decode prog_9_method_2_code 0 = .ok (.aload_n 0, 1) := by decide +kernel
theorem d24_1 : decode prog_9_method_2_code 1 = .ok (.getfield 15, 3) := by decide +kernel
theorem d24_4 : decode prog_9_method_2_code 4 = .ok (.invokevirtual 51, 3) := by decide +kernel
theorem d24_7 : decode prog_9_method_2_code 7 = .ok (.aload_n 0, 1) := by decide +kernel
theorem d24_8 : decode prog_9_method_2_code 8 = .ok (.iload_n 1, 1) := by decide +kernel
theorem d24_9 : decode prog_9_method_2_code 9 = .ok (.aload_n 0, 1) := by decide +kernel
theorem d24_10 : decode prog_9_method_2_code 10 = .ok (.getfield 9, 3) := by decide +kernel
theorem d24_13 : decode prog_9_method_2_code 13 = .ok (.arraylength, 1) := by decide +kernel
theorem d24_14 : decode prog_9_method_2_code 14 = .ok (.invokestatic 56, 3) := by decide +kernel
theorem d24_17 : decode prog_9_method_2_code 17 = .ok (.putfield 33, 3) := by decide +kernel
theorem d24_20 : decode prog_9_method_2_code 20 = .ok (.aload_n 0, 1) := by decide +kernel
theorem d24_21 : decode prog_9_method_2_code 21 = .ok (.iconst 0, 1) := by decide +kernel
theorem d24_22 : decode prog_9_method_2_code 22 = .ok (.putfield 29, 3) := by decide +kernel
theorem d24_25 : decode prog_9_method_2_code 25 = .ok (.aload_n 0, 1) := by decide +kernel
theorem d24_26 : decode prog_9_method_2_code 26 = .ok (.iconst 0, 1) := by decide +kernel
theorem d24_27 : decode prog_9_method_2_code 27 = .ok (.putfield 36, 3) := by decide +kernel
theorem d24_30 : decode prog_9_method_2_code 30 = .ok (.iconst 1, 1) := by decide +kernel
theorem d24_31 : decode prog_9_method_2_code 31 = .ok (.istore_n 2, 1) := by decide +kernel
theorem d24_32 : decode prog_9_method_2_code 32 = .ok (.aload_n 0, 1) := by decide +kernel
theorem d24_33 : decode prog_9_method_2_code 33 = .ok (.getfield 33, 3) := by decide +kernel
theorem d24_36 : decode prog_9_method_2_code 36 = .ok (.iconst 1, 1) := by decide +kernel
theorem d24_37 : decode prog_9_method_2_code 37 = .ok (.iadd, 1) := by decide +kernel
theorem d24_38 : decode prog_9_method_2_code 38 = .ok (.istore_n 3, 1) := by decide +kernel
theorem d24_39 : decode prog_9_method_2_code 39 = .ok (.iload_n 2, 1) := by decide +kernel
theorem d24_40 : decode prog_9_method_2_code 40 = .ok (.ifCond .eq 18, 3) := by decide +kernel
theorem d24_43 : decode prog_9_method_2_code 43 = .ok (.iload_n 3, 1) := by decide +kernel
theorem d24_44 : decode prog_9_method_2_code 44 = .ok (.ifCond .le 14, 3) := by decide +kernel
theorem d24_47 : decode prog_9_method_2_code 47 = .ok (.aload_n 0, 1) := by decide +kernel
theorem d24_48 : decode prog_9_method_2_code 48 = .ok (.invokevirtual 62, 3) := by decide +kernel
theorem d24_51 : decode prog_9_method_2_code 51 = .ok (.istore_n 2, 1) := by decide +kernel
theorem d24_52 : decode prog_9_method_2_code 52 = .ok (.iinc 3 (-1), 3) := by decide +kernel
theorem d24_55 : decode prog_9_method_2_code 55 = .ok (.goto (-16), 3) := by decide +kernel
theorem d24_58 : decode prog_9_method_2_code 58 = .ok (.aload_n 0, 1) := by decide +kernel
theorem d24_59 : decode prog_9_method_2_code 59 = .ok (.iconst 0, 1) := by decide +kernel
theorem d24_60 : decode prog_9_method_2_code 60 = .ok (.putfield 43, 3) := by decide +kernel
theorem d24_63 : decode prog_9_method_2_code 63 = .ok (.aload_n 0, 1) := by decide +kernel
theorem d24_64 : decode prog_9_method_2_code 64 = .ok (.aload_n 0, 1) := by decide +kernel
theorem d24_65 : decode prog_9_method_2_code 65 = .ok (.getfield 19, 3) := by decide +kernel
theorem d24_68 : decode prog_9_method_2_code 68 = .ok (.iconst 0, 1) := by decide +kernel
theorem d24_69 : decode prog_9_method_2_code 69 = .ok (.iaload, 1) := by decide +kernel
theorem d24_70 : decode prog_9_method_2_code 70 = .ok (.putfield 48, 3) := by decide +kernel
theorem d24_73 : decode prog_9_method_2_code 73 = .ok (.return_, 1) := by decide +kernel
theorem m24 : pm_m 24 = some (⟨"TypeRules$Tokens", "read", "(I)V"⟩, prog_9_method_2_code, 4, none, 2, 1, 3) := rfl
/-! READ -/
def lx_ns : List (List Nat) := nl_N 8
theorem lx_ns_nd : lx_ns.Nodup := by unfold lx_ns; decide +kernel
theorem lx_J0 {t : Nat → Nat} {M : Nat} : lx_J t M 0 lx_ns := ⟨lx_ns_nd, by unfold lx_ns; rw [nl_N_len.1]; omega, fun _ => by unfold lx_ns; rw [nl_N_len.1]; omega, by unfold lx_ns; exact nl_N_len.2, List.prefix_refl _⟩
/-- no token before j ends the list -/
def lx_b (t : Nat → Nat) (M j : Nat) : Prop := ∀ i, i < j → lx_k t M lx_ns i ≠ 45 ∧ lx_k t M lx_ns i ≠ 44
theorem nt_pi2 {σ : pm_S} {ns : List (List Nat)} {j : Nat} {x : Int32} (h : nt_I σ 1 12 13 14 15 ns) : nt_I (pm_pi σ 2 j x) 1 12 13 14 15 ns := h
theorem lx_at0 {t : Nat → Nat} {M : Nat} {ns : List (List Nat)} : lx_at t M ns 0 = (0, ns) := rfl
theorem lx_at_J {t : Nat → Nat} {M : Nat} (hM : M ≤ 8192) : ∀ j, lx_b t M j → lx_J t M (lx_at t M lx_ns j).1 (lx_at t M lx_ns j).2 ∧ j ≤ (lx_at t M lx_ns j).1 ∧ (lx_at t M lx_ns j).1 ≤ M
  | 0, _ => by rw [lx_at0]; dsimp only; exact ⟨lx_J0, Nat.le_refl _, Nat.zero_le _⟩
  | j + 1, h => by
    obtain ⟨h1, h2, h3⟩ := lx_at_J hM j (fun i hi => h i (by omega))
    obtain ⟨g1, g2⟩ := h j (by omega)
    have := lx_nx_e (t := t) (ns := (lx_at t M lx_ns j).2) hM h3 h1 g1 g2
    exact ⟨this.2.2.1, Nat.lt_of_le_of_lt h2 this.1, this.2.1⟩
/-- the tokens are read: n of them -/
def lx_P (σ σ' : pm_S) (t : Nat → Nat) (M n : Nat) : Prop :=
  lx_b t M (n - 1) ∧ 1 ≤ n ∧ n ≤ M + 1 ∧ (lx_k t M lx_ns (n - 1) = 45 ∨ lx_k t M lx_ns (n - 1) = 44) ∧ σ'.1 2 5 = nI n ∧ σ'.1 2 6 = nI M ∧ σ'.1 2 9 = 0 ∧ σ'.1 2 10 = nI (lx_k t M lx_ns 0) ∧
  (∀ j, j < n → σ'.2.2 16 j = nI (lx_k t M lx_ns j) ∧ σ'.2.2 17 j = nI (lx_p t M lx_ns j) ∧ σ'.2.2 18 j = nI (lx_v t M lx_ns j)) ∧ nt_I σ' 1 12 13 14 15 (lx_at t M lx_ns n).2 ∧
  (∀ a b, a ≠ 1 → a ≠ 2 → σ'.1 a b = σ.1 a b) ∧ (∀ a b, ¬ (a = 2 ∧ b = 8) → σ'.2.1 a b = σ.2.1 a b) ∧ ∀ k, k < 12 ∨ 18 < k → σ'.2.2 k = σ.2.2 k
/-- before token j -/
def lx_W (σ0 σ : pm_S) (t : Nat → Nat) (M j : Nat) : Prop :=
  lx_T σ t M ∧ σ.1 2 5 = nI j ∧ σ.1 2 7 = nI (lx_at t M lx_ns j).1 ∧ nt_I σ 1 12 13 14 15 (lx_at t M lx_ns j).2 ∧ lx_b t M j ∧
  (∀ i, i < j → σ.2.2 16 i = nI (lx_k t M lx_ns i) ∧ σ.2.2 17 i = nI (lx_p t M lx_ns i) ∧ σ.2.2 18 i = nI (lx_v t M lx_ns i)) ∧
  (∀ a b, a ≠ 1 → a ≠ 2 → σ.1 a b = σ0.1 a b) ∧ (∀ a b, ¬ (a = 2 ∧ b = 8) → σ.2.1 a b = σ0.2.1 a b) ∧ ∀ k, k < 12 ∨ 18 < k → σ.2.2 k = σ0.2.2 k
theorem lx_upd {f : Nat → Int32} {h : Nat → Nat} {j i : Nat} {x : Nat} (hf : ∀ i, i < j → f i = nI (h i)) (hx : x = h j) (hi : i < j + 1) : upd f j (nI x) i = nI (h i) := by
  by_cases q : i = j
  · subst q; rw [pk_us, hx]
  · rw [pk_un q]; exact hf i (by omega)
theorem lx_rl {d : Nat} {σ0 : pm_S} {Q : Option Value → pm_S → Prop} {t : Nat → Nat} {M : Nat} {x : Int32} (hQ : ∀ σ' n, lx_P σ0 σ' t M n → Q none σ') : ∀ (k j : Nat) (σ : pm_S), j + k = M + 1 → lx_W σ0 σ t M j → pm_WP pm_Y0 (pm_call pm_Y0 (d + 6)) 2 prog_9_method_2_code none Q 39 [.ref 2, .int x, .int 1, .int (nI k)] [] σ := by
  intro k
  induction k with
  | zero =>
    intro j σ hj hW
    have := lx_at_J hW.1.2.1 j hW.2.2.2.2.1
    omega
  | succ k ih =>
    intro j σ hj hW
    obtain ⟨w1, w2, w3, w4, w5, w6, w7, w8, w9⟩ := hW
    have hM := w1.2.1
    obtain ⟨j1, j2, j3⟩ := lx_at_J hM j w5
    have ek := nI_toInt (n := k + 1) (by omega)
    refine wq_l 40 d24_39 rfl rfl rfl rfl ?_
    refine wq_b 58 43 d24_40 rfl (by decide) rfl (fun c40 => absurd c40 (by decide)) (fun c40 => ?_)
    refine wq_l 44 d24_43 rfl rfl rfl rfl ?_
    refine wq_b 58 47 d24_44 rfl (by decide) rfl (fun c44 => absurd c44 ((by simp only [i_lt, i_le, i_eq, ne_eq, Int32.reduceToInt, b2_0, b2_1, decide_eq_true_eq, decide_eq_false_iff_not, Bool.not_eq_true, Bool.not_eq_false] at * <;> omega))) (fun c44 => ?_)
    refine wq_l 48 d24_47 rfl rfl rfl rfl ?_
    refine wq_v 51 [] d24_48 rfl rfl m25 rfl rfl (Nat.le_of_ble_eq_true rfl) rfl (sp25 w1 w2 (by omega) w3 j3 w4 j1 (fun σ' hA h7 => ?_))
    obtain ⟨a1, a2, a3, a4, a5, a6, a7, a8⟩ := hA
    have hT' : lx_T σ' t M := ⟨(a1 2 6 (by decide) (by decide)).trans w1.1, hM, fun i => by rw [a4 11 (by decide)]; exact w1.2.2.1 i, w1.2.2.2⟩
    have hrec : ∀ i, i < j + 1 → σ'.2.2 16 i = nI (lx_k t M lx_ns i) ∧ σ'.2.2 17 i = nI (lx_p t M lx_ns i) ∧ σ'.2.2 18 i = nI (lx_v t M lx_ns i) := fun i hi => by
      rw [a5, a6, a7]
      exact ⟨lx_upd (fun i hi => (w6 i hi).1) rfl hi, lx_upd (fun i hi => (w6 i hi).2.1) rfl hi, lx_upd (fun i hi => (w6 i hi).2.2) rfl hi⟩
    have f1 : ∀ a b, a ≠ 1 → a ≠ 2 → σ'.1 a b = σ0.1 a b := fun a b n1 n2 => (a1 a b (fun z => n2 z.1) (fun z => n1 z.1)).trans (w7 a b n1 n2)
    have f2 : ∀ a b, ¬ (a = 2 ∧ b = 8) → σ'.2.1 a b = σ0.2.1 a b := fun a b n1 => (a3 a b n1).trans (w8 a b n1)
    have f3 : ∀ k, k < 12 ∨ 18 < k → σ'.2.2 k = σ0.2.2 k := fun k hk => (a4 k hk).trans (w9 k hk)
    refine wq_s 52 d24_51 rfl rfl (Nat.le_of_ble_eq_true rfl) rfl rfl ?_
    refine wq_i 55 d24_52 rfl rfl rfl ?_
    rw [show nI (k + 1) + Int32.ofInt (-1) = nI k from nI_m1 k]
    refine wq_g 39 d24_55 (by decide) ?_
    by_cases hk : lx_k t M lx_ns j ≠ 45 ∧ lx_k t M lx_ns j ≠ 44
    · have hv : b2 (decide ((lx_nx t M (lx_at t M lx_ns j)).2.1.1 ≠ 45 ∧ (lx_nx t M (lx_at t M lx_ns j)).2.1.1 ≠ 44)) = 1 := b2_t (decide_eq_true hk)
      rw [hv]
      exact ih (j + 1) σ' (by omega) ⟨hT', a2, h7 hk.1, a8, fun i hi => by rcases Nat.lt_or_ge i j with z | z; exact w5 i z; rw [show i = j by omega]; exact hk, hrec, f1, f2, f3⟩
    · have hv : b2 (decide ((lx_nx t M (lx_at t M lx_ns j)).2.1.1 ≠ 45 ∧ (lx_nx t M (lx_at t M lx_ns j)).2.1.1 ≠ 44)) = 0 := b2_f (decide_eq_false hk)
      rw [hv]
      have hP : ∀ σ2, σ2.1 2 5 = σ'.1 2 5 → σ2.1 2 6 = σ'.1 2 6 → σ2.1 2 9 = 0 → σ2.1 2 10 = σ'.2.2 16 0 → (∀ a b, a ≠ 2 → σ2.1 a b = σ'.1 a b) → σ2.2 = σ'.2 → lx_P σ0 σ2 t M (j + 1) := fun σ2 e1 e2 e3 e4 e5 e6 => by
        refine ⟨w5, by omega, by omega, ?_, e1.trans a2, e2.trans hT'.1, e3, e4.trans (hrec 0 (by omega)).1, fun i hi => by rw [e6]; exact hrec i hi, ?_, fun a b n1 n2 => (e5 a b n2).trans (f1 a b n1 n2), fun a b h => by rw [e6]; exact f2 a b h, fun k hk => by rw [e6]; exact f3 k hk⟩
        · show lx_k t M lx_ns j = 45 ∨ lx_k t M lx_ns j = 44
          omega
        · unfold nt_I nm_I nm_S at a8 ⊢
          rw [e6, e5 1 4 (by decide)]
          exact a8
      refine wq_l 40 d24_39 rfl rfl rfl rfl ?_
      refine wq_b 58 43 d24_40 rfl (by decide) rfl (fun c40 => ?_) (fun c40 => absurd (rfl) c40)
      refine wq_l 59 d24_58 rfl rfl rfl rfl ?_
      refine wq_k 60 0 d24_59 (by decide) rfl ?_
      refine wq_pf (ci := 2) (j := 9) 63 d24_60 rfl rfl rfl ⟨rfl, rfl⟩ rfl ?_
      refine wq_l 64 d24_63 rfl rfl rfl rfl ?_
      refine wq_l 65 d24_64 rfl rfl rfl rfl ?_
      refine wq_gr (ci := 2) (j := 2) (q := 16) 68 d24_65 rfl rfl rfl rfl ?_
      refine wq_k 69 0 d24_68 (by decide) rfl ?_
      refine wq_al 70 d24_69 rfl rfl rfl (vp_in_iff.mpr (by decide)) ?_
      refine wq_pf (ci := 2) (j := 10) 73 d24_70 rfl rfl rfl ⟨rfl, rfl⟩ rfl ?_
      refine wq_rv d24_73 ?_
      refine hQ _ (j + 1) (hP _ rfl rfl rfl rfl (fun a b n2 => ?_) rfl)
      unfold pm_pi
      simp only [if_neg n2]
theorem sp24 {d : Nat} {σ : pm_S} {Q : Option Value → pm_S → Prop} {t : Nat → Nat} {M : Nat} {ns : List (List Nat)} (hM : M ≤ 8192) (hch : ∀ i, σ.2.2 11 i = nI (t i)) (ht : ∀ i, t i < 256) (hI : nt_I σ 1 12 13 14 15 ns) (hp : nl_N 8 <+: ns) (hQ : ∀ σ' n, lx_P σ σ' t M n → Q none σ') : pm_call pm_Y0 (d + 7) 24 [.ref 2, .int (nI M)] σ Q := by
  have eM := nI_toInt (n := M) (by omega)
  have emn : (if Int32.ofNat 8192 < nI M then Int32.ofNat 8192 else nI M) = nI M := if_neg (nI_nlt (a := 8192) hM (by decide))
  refine wq_m m24 (Nat.le_of_ble_eq_true rfl) (by decide) rfl ?_
  refine wq_l 1 d24_0 rfl rfl rfl rfl ?_
  refine wq_gr (ci := 2) (j := 1) (q := 1) 4 d24_1 rfl rfl rfl rfl ?_
  refine wq_v 7 [] d24_4 rfl rfl m20 rfl rfl (Nat.le_of_ble_eq_true rfl) rfl (sp20 hI hp (fun σ1 hF hI1 => ?_))
  obtain ⟨f1, f2, f3⟩ := hF
  have hI2 : nt_I σ1 1 12 13 14 15 lx_ns := by unfold lx_ns; exact hI1
  refine wq_l 8 d24_7 rfl rfl rfl rfl ?_
  refine wq_l 9 d24_8 rfl rfl rfl rfl ?_
  refine wq_l 10 d24_9 rfl rfl rfl rfl ?_
  refine wq_gr (ci := 2) (j := 0) (q := 11) 13 d24_10 rfl rfl rfl rfl ?_
  refine wq_len 14 d24_13 rfl rfl rfl ?_
  refine wq_mn 17 d24_14 rfl (by decide) rfl ?_
  rw [emn]
  refine wq_pf (ci := 2) (j := 6) 20 d24_17 rfl rfl rfl ⟨rfl, rfl⟩ rfl ?_
  refine wq_l 21 d24_20 rfl rfl rfl rfl ?_
  refine wq_k 22 0 d24_21 (by decide) rfl ?_
  refine wq_pf (ci := 2) (j := 5) 25 d24_22 rfl rfl rfl ⟨rfl, rfl⟩ rfl ?_
  refine wq_l 26 d24_25 rfl rfl rfl rfl ?_
  refine wq_k 27 0 d24_26 (by decide) rfl ?_
  refine wq_pf (ci := 2) (j := 7) 30 d24_27 rfl rfl rfl ⟨rfl, rfl⟩ rfl ?_
  refine wq_k 31 1 d24_30 (by decide) rfl ?_
  refine wq_s 32 d24_31 rfl rfl (Nat.le_of_ble_eq_true rfl) rfl rfl ?_
  refine wq_l 33 d24_32 rfl rfl rfl rfl ?_
  refine wq_gi (ci := 2) (j := 6) 36 d24_33 rfl rfl rfl rfl ?_
  refine wq_k 37 1 d24_36 (by decide) rfl ?_
  refine wq_a 38 d24_37 rfl rfl ?_
  rw [show (pm_pi (pm_pi (pm_pi σ1 2 6 (nI M)) 2 5 0) 2 7 0).1 2 6 + 1 = nI (M + 1) from (nI_succ M).symm]
  refine wq_s 39 d24_38 rfl rfl (Nat.le_of_ble_eq_true rfl) rfl rfl ?_
  refine lx_rl hQ (M + 1) 0 _ (by omega) ⟨⟨rfl, hM, fun i => by show σ1.2.2 11 i = _; rw [f3 11 (by decide)]; exact hch i, ht⟩, rfl, by rw [lx_at0]; rfl, by rw [lx_at0]; dsimp only; exact nt_pi2 (nt_pi2 (nt_pi2 hI2)), fun i hi => absurd hi (by omega), fun i hi => absurd hi (by omega), fun a b n1 n2 => ?_, fun a b _ => by show σ1.2.1 a b = _; rw [f2], fun k hk => f3 k (by omega)⟩
  refine Eq.trans ?_ (f1 a b (fun z => n1 z.1))
  unfold pm_pi
  simp only [if_neg n2]
