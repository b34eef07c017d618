/-! JUDGE of the class, walked -/
theorem rl_runl {l : List pg_N} (hol : ∀ A i, (rl_out l A i).1 < 2 ^ 20) : ∀ (n : Nat) (w : rl_W), (rl_run l n w).1 < 2 ^ 20
  | 0, w => by show 0 < 2 ^ 20; omega
  | n + 1, w => by
    by_cases h : (rl_step l w).1 = 0
    · rw [rl_runc h]; exact rl_runl hol n _
    · rw [rl_runs h]
      obtain ⟨o, nx, A⟩ := w
      by_cases hn : nx < rl_end l o
      · rw [rl_sti hn]; exact rl_inl l A nx
      · cases o with
        | none =>
          rw [show rl_step l (none, nx, A) = (0, 0, none, nx, A) from if_neg hn]
          show 0 < 2 ^ 20; omega
        | some i => rw [rl_sto hn]; exact hol A i
theorem rl_gol {l : List pg_N} (hol : ∀ A i, (rl_out l A i).1 < 2 ^ 20) : (rl_go l).1 < 2 ^ 20 := rl_runl hol _ _
theorem cju {σ : pm_S} {Q : Option Value → pm_S → Prop} {t : Nat → Nat} {M : Nat} {ns : List (List Nat)} (hM : M ≤ 8192) (h6 : σ.1 0 6 = nI M) (hch : ∀ i, σ.2.2 11 i = nI (t i)) (ht : ∀ i, t i < 256) (hI : nt_I σ 1 12 13 14 15 ns) (hp : nl_N 8 <+: ns) (hQ : ∀ n τ, rp_n t M n → cju_R t M n σ τ → Q (some (.int (cj_f (pt_T t M n)))) τ) : pm_call pm_Y0 1000 5 [.ref 0] σ Q := by
  have A0 : cj_F σ (pm_pi (pm_pi (pm_pi (pm_pi σ 0 9 0) 0 10 0) 0 11 0) 0 8 (-1)) := cj_t (cj_t (cj_t (cj_pi (by decide)) (cj_pi (by decide))) (cj_pi (by decide))) (cj_pi (by decide))
  have z9 : (pm_pi (pm_pi (pm_pi (pm_pi σ 0 9 0) 0 10 0) 0 11 0) 0 8 (-1)).1 0 9 = 0 := by simp [pm_pi]
  have z10 : (pm_pi (pm_pi (pm_pi (pm_pi σ 0 9 0) 0 10 0) 0 11 0) 0 8 (-1)).1 0 10 = 0 := by simp [pm_pi]
  have z11 : (pm_pi (pm_pi (pm_pi (pm_pi σ 0 9 0) 0 10 0) 0 11 0) 0 8 (-1)).1 0 11 = 0 := by simp [pm_pi]
  have z8 : (pm_pi (pm_pi (pm_pi (pm_pi σ 0 9 0) 0 10 0) 0 11 0) 0 8 (-1)).1 0 8 = -1 := by simp [pm_pi]
  have z58 : (pm_pi (pm_pi (pm_pi (pm_pi σ 0 9 0) 0 10 0) 0 11 0) 0 8 (-1)).1 5 8 = σ.1 5 8 := by simp [pm_pi]
  have N0 : nt_I (pm_pi (pm_pi (pm_pi (pm_pi σ 0 9 0) 0 10 0) 0 11 0) 0 8 (-1)) 1 12 13 14 15 ns := nt_x hI (by simp [pm_pi]) (fun _ _ _ => rfl)
  refine wq_m m5 (Nat.le_of_ble_eq_true rfl) (by decide) rfl ?_
  refine wq_l 1 d5_0 rfl rfl rfl rfl ?_
  refine wq_k 2 0 d5_1 (by decide) rfl ?_
  refine wq_pf (ci := 0) (j := 9) 5 d5_2 rfl rfl rfl ⟨rfl, rfl⟩ rfl ?_
  refine wq_l 6 d5_5 rfl rfl rfl rfl ?_
  refine wq_k 7 0 d5_6 (by decide) rfl ?_
  refine wq_pf (ci := 0) (j := 10) 10 d5_7 rfl rfl rfl ⟨rfl, rfl⟩ rfl ?_
  refine wq_l 11 d5_10 rfl rfl rfl rfl ?_
  refine wq_k 12 0 d5_11 (by decide) rfl ?_
  refine wq_pf (ci := 0) (j := 11) 15 d5_12 rfl rfl rfl ⟨rfl, rfl⟩ rfl ?_
  refine wq_l 16 d5_15 rfl rfl rfl rfl ?_
  refine wq_k 17 (-1) d5_16 (by decide) rfl ?_
  refine wq_pf (ci := 0) (j := 8) 20 d5_17 rfl rfl rfl ⟨rfl, rfl⟩ rfl ?_
  generalize pm_pi (pm_pi (pm_pi (pm_pi σ 0 9 0) 0 10 0) 0 11 0) 0 8 (-1) = σa at *
  have e6 : σa.1 0 6 = nI M := A0.2.1.trans h6
  have e11 : ∀ i, σa.2.2 11 i = nI (t i) := fun i => by rw [A0.2.2.2 11 (Or.inl rfl)]; exact hch i
  refine wq_l 21 d5_20 rfl rfl rfl rfl ?_
  refine wq_gr (ci := 0) (j := 1) (q := 2) 24 d5_21 rfl rfl rfl rfl ?_
  refine wq_l 25 d5_24 rfl rfl rfl rfl ?_
  refine wq_gf (ci := 0) (j := 6) (f := 0) (v := .int (nI M)) 28 d5_25 rfl rfl rfl (congrArg Value.int (e6)) rfl ?_
  refine wq_v 31 [_] d5_28 rfl rfl m24 rfl rfl (Nat.le_of_ble_eq_true rfl) rfl (sp24 hM e11 ht N0 hp (fun σ1 n P => ?_))
  have hN : rp_n t M n := ⟨hM, P.1, P.2.1, P.2.2.1, P.2.2.2.1⟩
  have K := pc_Kx hM P
  have F1 := cj_lx P
  obtain ⟨p1, p2, p3, p4, p5, p6, p7, p8, p9, N1, f1, f2, f3⟩ := P
  have eT0 : (pt_T t M n).1 0 = lx_k t M lx_ns 0 := if_pos (by omega)
  refine wq_l 32 d5_31 rfl rfl rfl rfl ?_
  refine wq_l 33 d5_32 rfl rfl rfl rfl ?_
  refine wq_gr (ci := 0) (j := 3) (q := 4) 36 d5_33 rfl rfl rfl rfl ?_
  refine wq_v 39 [] d5_36 rfl rfl m78 rfl rfl (Nat.le_of_ble_eq_true rfl) rfl (pp78 K (by decide) p7 (by rw [eT0]; exact p8) (fun σ2 hR => ?_))
  rw [tx_1, tx_2] at hR
  rw [tx_1]
  obtain ⟨r1, r2, r3, r4, r5, r6, r7, r8⟩ := hR
  rw [List.nil_append] at r8
  have F2 := cj_pc r1
  have fx : ∀ a b, a = 0 ∨ a = 1 ∨ a = 5 → σ2.1 a b = σ1.1 a b := fun a b hab => by
    rcases r1.1 a b with w | w | w | w
    · omega
    · omega
    · omega
    · exact w
  have fy : ∀ b, σ1.1 0 b = σa.1 0 b := fun b => f1 0 b (by decide) (by decide)
  have ax : ∀ k, k < 19 → σ2.2.2 k = σ1.2.2 k := fun k hk => (r1.2.2 k).resolve_left (by omega)
  have N2 : nt_I σ2 1 12 13 14 15 (lx_at t M lx_ns n).2 := nt_x N1 (fx 1 4 (by omega)) (fun k k1 k2 => ax k (by omega))
  have v45 : (pt_T t M n).1 (tx_c (pt_T t M n)).1 = 45 → ¬ nI ((pt_T t M n).2.2 (tx_c (pt_T t M n)).1) = 0 := fun z w => by
    have z : lx_k t M lx_ns (tx_c (pt_T t M n)).1 = 45 := by
      rw [show (pt_T t M n).1 (tx_c (pt_T t M n)).1 = lx_k t M lx_ns (tx_c (pt_T t M n)).1 from if_pos r2] at z
      exact z
    obtain ⟨v1, v2⟩ := lx_bad (s := lx_at t M lx_ns (tx_c (pt_T t M n)).1) z
    have w : nI (lx_v t M lx_ns (tx_c (pt_T t M n)).1) = 0 := w
    have := hp_inj (b := 0) (by have v2 : lx_v t M lx_ns (tx_c (pt_T t M n)).1 ≤ 5 := v2; omega) (by decide) w
    have v1 : 1 ≤ lx_v t M lx_ns (tx_c (pt_T t M n)).1 := v1
    omega
  refine wq_pf (ci := 0) (j := 7) 42 d5_39 rfl rfl rfl ⟨rfl, rfl⟩ rfl ?_
  generalize hf : pt_f (pt_T t M n) (tx_c (pt_T t M n)) = f at *
  have F3 : cj_F σ2 (pm_pi σ2 0 7 f) := cj_pi (by decide)
  have e7 : (pm_pi σ2 0 7 f).1 0 7 = f := by simp [pm_pi]
  have g0 : ∀ b, b ≠ 7 → (pm_pi σ2 0 7 f).1 0 b = σa.1 0 b := fun b hb => by
    rw [← fy b, ← fx 0 b (by omega)]
    simp [pm_pi, hb]
  have gx : ∀ a b, a ≠ 0 → (pm_pi σ2 0 7 f).1 a b = σ2.1 a b := fun a b ha => by simp [pm_pi, ha]
  have gr : (pm_pi σ2 0 7 f).2.2 = σ2.2.2 := rfl
  have N3 : nt_I (pm_pi σ2 0 7 f) 1 12 13 14 15 (lx_at t M lx_ns n).2 := nt_x N2 (gx 1 4 (by decide)) (fun _ _ _ => rfl)
  generalize pm_pi σ2 0 7 f = σ3 at *
  have F0 : cj_F σ σ3 := cj_t A0 (cj_t F1 (cj_t F2 F3))
  refine wq_l 43 d5_42 rfl rfl rfl rfl ?_
  refine wq_gf (ci := 0) (j := 7) (f := 0) (v := .int (f)) 46 d5_43 rfl rfl rfl (congrArg Value.int (e7)) rfl ?_
  refine wq_b 65 49 d5_46 rfl (by decide) rfl (fun c46 => ?_) (fun c46 => ?_)
  · -- pc 65
    obtain ⟨lv, k44⟩ := pt_f0 (hf.trans c46) v45
    obtain ⟨hG, hnd, h0r⟩ := tx_G hN r2 lv
    have hC := tx_C hN r2 lv
    obtain ⟨n75, n41⟩ := lx_nnl hN
    have tL := r8 hG.2.2.2.1
    have tL3 : tr_L σ3 (tx_l (pt_T t M n)) := by
      unfold tr_L at *
      rw [gr, gx 3 8 (by decide)]
      exact tL
    obtain ⟨hZ, hD⟩ := tx_Z hG tL3
    have n4 : σ3.1 1 4 = nI (lx_at t M lx_ns n).2.length := N3.1.2.1
    have hll := hG.2.2.2.1
    have hol := rl_oLa hG
    refine wq_l 66 d5_65 rfl rfl rfl rfl ?_
    refine wq_l 67 d5_66 rfl rfl rfl rfl ?_
    refine wq_gr (ci := 0) (j := 5) (q := 7) 70 d5_67 rfl rfl rfl rfl ?_
    refine wq_v 73 [] d5_70 rfl rfl m141 rfl rfl (Nat.le_of_ble_eq_true rfl) rfl (cr141 hG n41 n75 h0r (pi_all hG h0r hC) pi_0 hol hZ hD n4 (fun σ4 hX => ?_))
    obtain ⟨x1, x2, x3, x4⟩ := hX
    have F4 := cj_cc x1
    have fz : ∀ a b, a ≠ 5 → a ≠ 6 → a ≠ 7 → σ4.1 a b = σ3.1 a b := fun a b h1 h2 h3 => by
      rcases x1.1 a b with w | w | w | w
      · omega
      · omega
      · omega
      · exact w
    have az : ∀ k, k < 23 → σ4.2.2 k = σ3.2.2 k := fun k hk => (x1.2.2 k).resolve_left (by omega)
    have gl : (rl_go (tx_l (pt_T t M n))).1 < 2 ^ 20 := rl_gol hol
    refine wq_pf (ci := 0) (j := 7) 76 d5_73 rfl rfl rfl ⟨rfl, rfl⟩ rfl ?_
    generalize hr : rl_go (tx_l (pt_T t M n)) = r at *
    have F5 : cj_F σ4 (pm_pi σ4 0 7 (nI r.1)) := cj_pi (by decide)
    have e7' : (pm_pi σ4 0 7 (nI r.1)).1 0 7 = nI r.1 := by simp [pm_pi]
    have g0' : ∀ b, b ≠ 7 → (pm_pi σ4 0 7 (nI r.1)).1 0 b = σa.1 0 b := fun b hb => by
      rw [← g0 b hb, ← fz 0 b (by decide) (by decide) (by decide)]
      simp [pm_pi, hb]
    have gx' : ∀ a b, a ≠ 0 → (pm_pi σ4 0 7 (nI r.1)).1 a b = σ4.1 a b := fun a b ha => by simp [pm_pi, ha]
    have gr' : (pm_pi σ4 0 7 (nI r.1)).2.2 = σ4.2.2 := rfl
    have N5 : nt_I (pm_pi σ4 0 7 (nI r.1)) 1 12 13 14 15 (lx_at t M lx_ns n).2 := nt_x N3 ((gx' 1 4 (by decide)).trans (fz 1 4 (by decide) (by decide) (by decide))) (fun k k1 k2 => by rw [gr']; exact az k (by omega))
    generalize pm_pi σ4 0 7 (nI r.1) = σ5 at *
    have F6 : cj_F σ σ5 := cj_t F0 (cj_t F4 F5)
    have cf : cj_f (pt_T t M n) = nI r.1 := by
      unfold cj_f
      rw [hf, if_neg (fun z => z c46), hr]
    have e38 : σ5.1 3 8 = nI (tx_l (pt_T t M n)).length := (gx' 3 8 (by decide)).trans ((fz 3 8 (by decide) (by decide) (by decide)).trans tL3.1)
    refine wq_l 77 d5_76 rfl rfl rfl rfl ?_
    refine wq_gf (ci := 0) (j := 7) (f := 0) (v := .int (nI r.1)) 80 d5_77 rfl rfl rfl (congrArg Value.int (e7')) rfl ?_
    refine wq_b 99 83 d5_80 rfl (by decide) rfl (fun c80 => ?_) (fun c80 => ?_)
    · -- pc 99
      have f0 : r.1 = 0 := hp_inj (b := 0) (by omega) (by decide) c80
      obtain ⟨y1, y2, y3, y4, y5, y6, y7⟩ := x3 f0
      have e58 : σ5.1 5 8 = nI (9 + r.2.2.2.2.1.length) := (gx' 5 8 (by decide)).trans y4
      have e59 : σ5.1 5 9 = nI (rl_all r.2.2.2.2.1) := (gx' 5 9 (by decide)).trans y5
      refine wq_l 100 d5_99 rfl rfl rfl rfl ?_
      refine wq_l 101 d5_100 rfl rfl rfl rfl ?_
      refine wq_gr (ci := 0) (j := 2) (q := 3) 104 d5_101 rfl rfl rfl rfl ?_
      refine wq_v 107 [] d5_104 rfl rfl m60 rfl rfl (Nat.le_of_ble_eq_true rfl) rfl (sp60 ?_)
      rw [e38]
      refine wq_pf (ci := 0) (j := 9) 110 d5_107 rfl rfl rfl ⟨rfl, rfl⟩ rfl ?_
      refine wq_l 111 d5_110 rfl rfl rfl rfl ?_
      refine wq_l 112 d5_111 rfl rfl rfl rfl ?_
      refine wq_gr (ci := 0) (j := 4) (q := 5) 115 d5_112 rfl rfl rfl rfl ?_
      refine wq_v 118 [] d5_115 rfl rfl m126 rfl rfl (Nat.le_of_ble_eq_true rfl) rfl (sp126 (N := r.2.2.2.2.1.length) (by simp [pm_pi]; exact e58) y3 ?_)
      refine wq_pf (ci := 0) (j := 10) 121 d5_118 rfl rfl rfl ⟨rfl, rfl⟩ rfl ?_
      refine wq_l 122 d5_121 rfl rfl rfl rfl ?_
      refine wq_l 123 d5_122 rfl rfl rfl rfl ?_
      refine wq_gr (ci := 0) (j := 4) (q := 5) 126 d5_123 rfl rfl rfl rfl ?_
      refine wq_v 129 [] d5_126 rfl rfl m119 rfl rfl (Nat.le_of_ble_eq_true rfl) rfl (cb119 ?_)
      refine wq_pf (ci := 0) (j := 11) 132 d5_129 rfl rfl rfl ⟨rfl, rfl⟩ rfl ?_
      refine wq_k 133 0 d5_132 (by decide) rfl ?_
      refine wq_ri d5_133 (rfl) ?_
      rw [show (0 : Int32) = cj_f (pt_T t M n) by rw [cf, f0]; rfl]
      refine hQ n _ hN ⟨cj_t (cj_t (cj_t F6 (cj_pi (by decide))) (cj_pi (by decide))) (cj_pi (by decide)), nt_x N5 (by simp [pm_pi]) (fun _ _ _ => rfl), by rw [cf]; simp [pm_pi]; exact e7', r2, Or.inr (Or.inr ⟨hf.trans c46, by rw [hr]; exact f0, ?_, ?_, ?_, ?_, ?_, ?_, ?_, ?_, ?_, ?_⟩)⟩
      · simp [pm_pi]; exact (g0' 8 (by decide)).trans z8
      · simp [pm_pi]
      · rw [hr]; simp [pm_pi]
      · rw [hr]; simp [pm_pi]; exact e59
      · simp [pm_pi]; exact e38
      · rw [hr]; simp [pm_pi]; exact e58
      · rw [hr]; exact y3
      · intro i hi
        rw [hr]
        obtain ⟨_, d2, d3, d4⟩ := y2 i hi
        refine ⟨?_, ?_, ?_, ?_⟩
        · show σ5.2.2 19 i = _
          rw [gr', az 19 (by omega)]; exact (hZ.2.2.2 i hi).2.1
        · show σ5.2.2 24 i = _
          rw [gr']; exact d2
        · show σ5.2.2 25 i = _
          rw [gr']; exact d3
        · show σ5.2.2 26 i = _
          rw [gr']; exact d4
      · intro b y hb
        rw [hr] at hb
        show σ5.2.2 29 (9 + b) = _
        rw [gr']; exact y6 b y hb
      · intro b hb
        rw [hr] at hb ⊢
        show σ5.2.2 30 (9 + b) = _
        rw [gr']; exact y7 b hb
    · -- pc 83
      refine wq_l 84 d5_83 rfl rfl rfl rfl ?_
      refine wq_l 85 d5_84 rfl rfl rfl rfl ?_
      refine wq_gr (ci := 0) (j := 5) (q := 7) 88 d5_85 rfl rfl rfl rfl ?_
      refine wq_v 91 [] d5_88 rfl rfl m162 rfl rfl (Nat.le_of_ble_eq_true rfl) rfl (sp162 ?_)
      refine wq_pf (ci := 0) (j := 8) 94 d5_91 rfl rfl rfl ⟨rfl, rfl⟩ rfl ?_
      refine wq_l 95 d5_94 rfl rfl rfl rfl ?_
      refine wq_gf (ci := 0) (j := 7) (f := 0) (v := .int (nI r.1)) 98 d5_95 rfl rfl rfl (congrArg Value.int (by simp [pm_pi]; exact e7')) rfl ?_
      refine wq_ri d5_98 (rfl) ?_
      have f0 : r.1 ≠ 0 := fun z => c80 (by rw [z]; rfl)
      rw [← cf]
      refine hQ n _ hN ⟨cj_t F6 (cj_pi (by decide)), nt_x N5 (by simp [pm_pi]) (fun _ _ _ => rfl), by rw [cf]; simp [pm_pi]; exact e7', r2, Or.inr (Or.inl ⟨hf.trans c46, by rw [hr]; exact f0, ?_, ?_, ?_, ?_, ?_, ?_⟩)⟩
      · rw [hr]; simp [pm_pi]; exact (gx' 7 7 (by decide)).trans (x4 f0)
      · simp [pm_pi]; exact (g0' 9 (by decide)).trans z9
      · simp [pm_pi]; exact (g0' 10 (by decide)).trans z10
      · simp [pm_pi]; exact (g0' 11 (by decide)).trans z11
      · exact ⟨_, hll, by simp [pm_pi]; exact e38⟩
      · obtain ⟨c, c1, c2⟩ := x2
        exact ⟨c, c1, by simp [pm_pi]; exact (gx' 5 8 (by decide)).trans c2⟩
  · -- pc 49
    refine wq_l 50 d5_49 rfl rfl rfl rfl ?_
    refine wq_l 51 d5_50 rfl rfl rfl rfl ?_
    refine wq_gr (ci := 0) (j := 1) (q := 2) 54 d5_51 rfl rfl rfl rfl ?_
    refine wq_v 57 [] d5_54 rfl rfl m46 rfl rfl (Nat.le_of_ble_eq_true rfl) rfl (sp46 ((gx 2 9 (by decide)).trans r3) (by omega) (by rw [gr, ax 17 (by omega)]; exact (p9 _ r2).2.1) ?_)
    refine wq_pf (ci := 0) (j := 8) 60 d5_57 rfl rfl rfl ⟨rfl, rfl⟩ rfl ?_
    refine wq_l 61 d5_60 rfl rfl rfl rfl ?_
    refine wq_gf (ci := 0) (j := 7) (f := 0) (v := .int (f)) 64 d5_61 rfl rfl rfl (congrArg Value.int (by simp [pm_pi]; exact e7)) rfl ?_
    refine wq_ri d5_64 (rfl) ?_
    have cf : cj_f (pt_T t M n) = f := by
      unfold cj_f
      rw [hf, if_pos c46]
    rw [← cf]
    refine hQ n _ hN ⟨cj_t F0 (cj_pi (by decide)), nt_x N3 (by simp [pm_pi]) (fun _ _ _ => rfl), by rw [cf]; simp [pm_pi]; exact e7, r2, Or.inl ⟨by rw [hf]; exact c46, by simp [pm_pi], ?_, ?_, ?_, ?_, ?_⟩⟩
    · simp [pm_pi]; exact (g0 9 (by decide)).trans z9
    · simp [pm_pi]; exact (g0 10 (by decide)).trans z10
    · simp [pm_pi]; exact (g0 11 (by decide)).trans z11
    · obtain ⟨m, m1, m2⟩ := r7
      exact ⟨m, m1, by simp [pm_pi]; exact (gx 3 8 (by decide)).trans m2⟩
    · simp [pm_pi]
      rw [gx 5 8 (by decide), fx 5 8 (by omega), f1 5 8 (by decide) (by decide)]
      exact z58
