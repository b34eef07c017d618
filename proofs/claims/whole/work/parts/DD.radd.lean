theorem d271_0 : decode prog_14_method_83_code 0 = .ok (.aload_n 0, 1) := by decide +kernel
theorem d271_1 : decode prog_14_method_83_code 1 = .ok (.getfield 89, 3) := by decide +kernel
theorem d271_4 : decode prog_14_method_83_code 4 = .ok (.aload_n 0, 1) := by decide +kernel
theorem d271_5 : decode prog_14_method_83_code 5 = .ok (.getfield 552, 3) := by decide +kernel
theorem d271_8 : decode prog_14_method_83_code 8 = .ok (.iload_n 1, 1) := by decide +kernel
theorem d271_9 : decode prog_14_method_83_code 9 = .ok (.iastore, 1) := by decide +kernel
theorem d271_10 : decode prog_14_method_83_code 10 = .ok (.aload_n 0, 1) := by decide +kernel
theorem d271_11 : decode prog_14_method_83_code 11 = .ok (.getfield 92, 3) := by decide +kernel
theorem d271_14 : decode prog_14_method_83_code 14 = .ok (.aload_n 0, 1) := by decide +kernel
theorem d271_15 : decode prog_14_method_83_code 15 = .ok (.getfield 552, 3) := by decide +kernel
theorem d271_18 : decode prog_14_method_83_code 18 = .ok (.iload_n 2, 1) := by decide +kernel
theorem d271_19 : decode prog_14_method_83_code 19 = .ok (.iastore, 1) := by decide +kernel
theorem d271_20 : decode prog_14_method_83_code 20 = .ok (.aload_n 0, 1) := by decide +kernel
theorem d271_21 : decode prog_14_method_83_code 21 = .ok (.getfield 95, 3) := by decide +kernel
theorem d271_24 : decode prog_14_method_83_code 24 = .ok (.aload_n 0, 1) := by decide +kernel
theorem d271_25 : decode prog_14_method_83_code 25 = .ok (.getfield 552, 3) := by decide +kernel
theorem d271_28 : decode prog_14_method_83_code 28 = .ok (.iload_n 3, 1) := by decide +kernel
theorem d271_29 : decode prog_14_method_83_code 29 = .ok (.iastore, 1) := by decide +kernel
theorem d271_30 : decode prog_14_method_83_code 30 = .ok (.aload_n 0, 1) := by decide +kernel
theorem d271_31 : decode prog_14_method_83_code 31 = .ok (.getfield 98, 3) := by decide +kernel
theorem d271_34 : decode prog_14_method_83_code 34 = .ok (.aload_n 0, 1) := by decide +kernel
theorem d271_35 : decode prog_14_method_83_code 35 = .ok (.getfield 552, 3) := by decide +kernel
theorem d271_38 : decode prog_14_method_83_code 38 = .ok (.iload 4, 2) := by decide +kernel
theorem d271_40 : decode prog_14_method_83_code 40 = .ok (.iastore, 1) := by decide +kernel
theorem d271_41 : decode prog_14_method_83_code 41 = .ok (.aload_n 0, 1) := by decide +kernel
theorem d271_42 : decode prog_14_method_83_code 42 = .ok (.getfield 101, 3) := by decide +kernel
theorem d271_45 : decode prog_14_method_83_code 45 = .ok (.aload_n 0, 1) := by decide +kernel
theorem d271_46 : decode prog_14_method_83_code 46 = .ok (.getfield 552, 3) := by decide +kernel
theorem d271_49 : decode prog_14_method_83_code 49 = .ok (.iconst (-1), 1) := by decide +kernel
theorem d271_50 : decode prog_14_method_83_code 50 = .ok (.iastore, 1) := by decide +kernel
theorem d271_51 : decode prog_14_method_83_code 51 = .ok (.aload_n 0, 1) := by decide +kernel
theorem d271_52 : decode prog_14_method_83_code 52 = .ok (.getfield 104, 3) := by decide +kernel
theorem d271_55 : decode prog_14_method_83_code 55 = .ok (.aload_n 0, 1) := by decide +kernel
theorem d271_56 : decode prog_14_method_83_code 56 = .ok (.getfield 552, 3) := by decide +kernel
theorem d271_59 : decode prog_14_method_83_code 59 = .ok (.iconst (-1), 1) := by decide +kernel
theorem d271_60 : decode prog_14_method_83_code 60 = .ok (.iastore, 1) := by decide +kernel
theorem d271_61 : decode prog_14_method_83_code 61 = .ok (.aload_n 0, 1) := by decide +kernel
theorem d271_62 : decode prog_14_method_83_code 62 = .ok (.dup, 1) := by decide +kernel
theorem d271_63 : decode prog_14_method_83_code 63 = .ok (.getfield 552, 3) := by decide +kernel
theorem d271_66 : decode prog_14_method_83_code 66 = .ok (.iconst 1, 1) := by decide +kernel
theorem d271_67 : decode prog_14_method_83_code 67 = .ok (.iadd, 1) := by decide +kernel
theorem d271_68 : decode prog_14_method_83_code 68 = .ok (.putfield 552, 3) := by decide +kernel
theorem d271_71 : decode prog_14_method_83_code 71 = .ok (.aload_n 0, 1) := by decide +kernel
theorem d271_72 : decode prog_14_method_83_code 72 = .ok (.getfield 80, 3) := by decide +kernel
theorem d271_75 : decode prog_14_method_83_code 75 = .ok (.aload_n 0, 1) := by decide +kernel
theorem d271_76 : decode prog_14_method_83_code 76 = .ok (.getfield 542, 3) := by decide +kernel
theorem d271_79 : decode prog_14_method_83_code 79 = .ok (.iconst 1, 1) := by decide +kernel
theorem d271_80 : decode prog_14_method_83_code 80 = .ok (.isub, 1) := by decide +kernel
theorem d271_81 : decode prog_14_method_83_code 81 = .ok (.aload_n 0, 1) := by decide +kernel
theorem d271_82 : decode prog_14_method_83_code 82 = .ok (.getfield 552, 3) := by decide +kernel
theorem d271_85 : decode prog_14_method_83_code 85 = .ok (.iastore, 1) := by decide +kernel
theorem d271_86 : decode prog_14_method_83_code 86 = .ok (.return_, 1) := by decide +kernel
theorem m271 : pm_m 271 = some (⟨"TypeRulesModel", "addVariable", "(IIII)V"⟩, prog_14_method_83_code, 5, none, 10, 4, 11) := rfl
/-! A VARIABLE is added by the reference -/
def ra_X (σ σ' : pm_S) (G cb : Nat) (n s t p : Int32) : Prop := (∀ x b, (x = 10 ∧ b = 41) ∨ σ'.1 x b = σ.1 x b) ∧ σ'.1 10 41 = nI (G + 1) ∧ σ'.2.1 = σ.2.1 ∧ (∀ k, k ≠ 66 → (k < 69 ∨ 74 < k) → σ'.2.2 k = σ.2.2 k) ∧ σ'.2.2 66 = upd (σ.2.2 66) cb (nI (G + 1)) ∧ (∀ k i, 69 ≤ k → k ≤ 74 → i ≠ G → σ'.2.2 k i = σ.2.2 k i) ∧ σ'.2.2 69 G = n ∧ σ'.2.2 70 G = s ∧ σ'.2.2 71 G = t ∧ σ'.2.2 72 G = p ∧ σ'.2.2 73 G = -1 ∧ σ'.2.2 74 G = -1
theorem re271 {d : Nat} {σ : pm_S} {Q : Option Value → pm_S → Prop} {G B : Nat} {n s t p : Int32} (e41 : σ.1 10 41 = nI G) (e35 : σ.1 10 35 = nI B) (hG : G < 4096) (hB : 0 < B) (hB9 : B ≤ 409) (hQ : ∀ σ', ra_X σ σ' G (B - 1) n s t p → Q none σ') : pm_call pm_Y0 (d + 1) 271 [.ref 10, .int n, .int s, .int t, .int p] σ Q := by
  have eg := nI_toInt (n := G) (by omega)
  have ec := nI_clamp (n := G) (by omega)
  have es : nI B - 1 = nI (B - 1) := nI_sbl (b := 1) (by omega)
  have eb := nI_toInt (n := B - 1) (by omega)
  have ecb := nI_clamp (n := B - 1) (by omega)
  refine wq_m m271 (Nat.le_of_ble_eq_true rfl) (by decide) rfl ?_
  refine wq_l 1 d271_0 rfl rfl rfl rfl ?_
  refine wq_gr (ci := 10) (j := 42) (q := 69) 4 d271_1 rfl rfl rfl rfl ?_
  refine wq_l 5 d271_4 rfl rfl rfl rfl ?_
  refine wq_gf (ci := 10) (j := 41) (f := 0) (v := .int (nI G)) 8 d271_5 rfl rfl rfl (congrArg Value.int (e41)) rfl ?_
  refine wq_l 9 d271_8 rfl rfl rfl rfl ?_
  refine wq_as 10 d271_9 rfl rfl rfl (vp_in_iff.mpr (by rw [eg]; omega)) ?_
  refine wq_l 11 d271_10 rfl rfl rfl rfl ?_
  refine wq_gr (ci := 10) (j := 43) (q := 70) 14 d271_11 rfl rfl rfl rfl ?_
  refine wq_l 15 d271_14 rfl rfl rfl rfl ?_
  refine wq_gf (ci := 10) (j := 41) (f := 0) (v := .int (nI G)) 18 d271_15 rfl rfl rfl (congrArg Value.int (e41)) rfl ?_
  refine wq_l 19 d271_18 rfl rfl rfl rfl ?_
  refine wq_as 20 d271_19 rfl rfl rfl (vp_in_iff.mpr (by rw [eg]; omega)) ?_
  refine wq_l 21 d271_20 rfl rfl rfl rfl ?_
  refine wq_gr (ci := 10) (j := 44) (q := 71) 24 d271_21 rfl rfl rfl rfl ?_
  refine wq_l 25 d271_24 rfl rfl rfl rfl ?_
  refine wq_gf (ci := 10) (j := 41) (f := 0) (v := .int (nI G)) 28 d271_25 rfl rfl rfl (congrArg Value.int (e41)) rfl ?_
  refine wq_l 29 d271_28 rfl rfl rfl rfl ?_
  refine wq_as 30 d271_29 rfl rfl rfl (vp_in_iff.mpr (by rw [eg]; omega)) ?_
  refine wq_l 31 d271_30 rfl rfl rfl rfl ?_
  refine wq_gr (ci := 10) (j := 45) (q := 72) 34 d271_31 rfl rfl rfl rfl ?_
  refine wq_l 35 d271_34 rfl rfl rfl rfl ?_
  refine wq_gf (ci := 10) (j := 41) (f := 0) (v := .int (nI G)) 38 d271_35 rfl rfl rfl (congrArg Value.int (e41)) rfl ?_
  refine wq_l 40 d271_38 rfl rfl rfl rfl ?_
  refine wq_as 41 d271_40 rfl rfl rfl (vp_in_iff.mpr (by rw [eg]; omega)) ?_
  refine wq_l 42 d271_41 rfl rfl rfl rfl ?_
  refine wq_gr (ci := 10) (j := 46) (q := 73) 45 d271_42 rfl rfl rfl rfl ?_
  refine wq_l 46 d271_45 rfl rfl rfl rfl ?_
  refine wq_gf (ci := 10) (j := 41) (f := 0) (v := .int (nI G)) 49 d271_46 rfl rfl rfl (congrArg Value.int (e41)) rfl ?_
  refine wq_k 50 (-1) d271_49 (by decide) rfl ?_
  refine wq_as 51 d271_50 rfl rfl rfl (vp_in_iff.mpr (by rw [eg]; omega)) ?_
  refine wq_l 52 d271_51 rfl rfl rfl rfl ?_
  refine wq_gr (ci := 10) (j := 47) (q := 74) 55 d271_52 rfl rfl rfl rfl ?_
  refine wq_l 56 d271_55 rfl rfl rfl rfl ?_
  refine wq_gf (ci := 10) (j := 41) (f := 0) (v := .int (nI G)) 59 d271_56 rfl rfl rfl (congrArg Value.int (e41)) rfl ?_
  refine wq_k 60 (-1) d271_59 (by decide) rfl ?_
  refine wq_as 61 d271_60 rfl rfl rfl (vp_in_iff.mpr (by rw [eg]; omega)) ?_
  refine wq_l 62 d271_61 rfl rfl rfl rfl ?_
  refine wq_a 63 d271_62 rfl rfl ?_
  refine wq_gf (ci := 10) (j := 41) (f := 0) (v := .int (nI G)) 66 d271_63 rfl rfl rfl (congrArg Value.int (e41)) rfl ?_
  refine wq_k 67 1 d271_66 (by decide) rfl ?_
  refine wq_a 68 d271_67 rfl rfl ?_
  rw [nI_1]
  refine wq_pf (ci := 10) (j := 41) 71 d271_68 rfl rfl rfl ⟨rfl, rfl⟩ rfl ?_
  refine wq_l 72 d271_71 rfl rfl rfl rfl ?_
  refine wq_gr (ci := 10) (j := 38) (q := 66) 75 d271_72 rfl rfl rfl rfl ?_
  refine wq_l 76 d271_75 rfl rfl rfl rfl ?_
  refine wq_gf (ci := 10) (j := 35) (f := 0) (v := .int (nI B)) 79 d271_76 rfl rfl rfl (congrArg Value.int (e35)) rfl ?_
  refine wq_k 80 1 d271_79 (by decide) rfl ?_
  refine wq_a 81 d271_80 rfl rfl ?_
  rw [es]
  refine wq_l 82 d271_81 rfl rfl rfl rfl ?_
  refine wq_gf (ci := 10) (j := 41) (f := 0) (v := .int (nI (G + 1))) 85 d271_82 rfl rfl rfl (congrArg Value.int (rfl)) rfl ?_
  refine wq_as 86 d271_85 rfl rfl rfl (vp_in_iff.mpr (by rw [eb]; omega)) ?_
  refine wq_rv d271_86 ?_
  rw [ec, ecb]
  refine hQ _ ⟨fun x b => ?_, rfl, rfl, fun k k1 k2 => ?_, ?_, fun k i k1 k2 k3 => ?_, ?_, ?_, ?_, ?_, ?_, ?_⟩
  · by_cases q1 : x = 10
    · by_cases q2 : b = 41
      · exact Or.inl ⟨q1, q2⟩
      · right; simp [pm_pr, pm_pi, q1, q2]
    · right; simp [pm_pr, pm_pi, q1]
  · rw [pm_rne (by omega)]
    show (pm_pr _ 74 _).2.2 k = _
    rw [pm_rne (by omega), pm_rne (by omega), pm_rne (by omega), pm_rne (by omega), pm_rne (by omega), pm_rne (by omega)]
  · first | rfl | (simp [pm_pr, pm_pi]; done) | (simp [pm_pr, pm_pi]; rfl)
  · rw [pm_rne (by omega)]
    show (pm_pr _ 74 _).2.2 k i = _
    rcases (show k = 69 ∨ k = 70 ∨ k = 71 ∨ k = 72 ∨ k = 73 ∨ k = 74 by omega) with w | w | w | w | w | w <;> subst w <;> simp [pm_pr, upd_if, k3]
  · simp [pm_pr, pm_pi, upd_if]; rfl
  · simp [pm_pr, pm_pi, upd_if]; rfl
  · simp [pm_pr, pm_pi, upd_if]; rfl
  · simp [pm_pr, pm_pi, upd_if]; rfl
  · simp [pm_pr, pm_pi, upd_if]; rfl
  · simp [pm_pr, pm_pi, upd_if]; rfl
/-- the new variable, known -/
theorem rr_addv {l : List pg_N} {a : Nat → Nat} {R : Int32 → Int32 → Prop} {σ0 σ σ' : pm_S} {fl : Bool} {u : Nat} {y : rl_B} {r : List rl_B} {T : (Nat → Int32) × (Nat → Int32) × (Nat → Int32)} {v : rl_V} (h : rr_I l a R σ0 σ fl u (y :: r, T)) (hF : rr_F σ0 σ') (eD : ∀ k, 56 ≤ k → k ≤ 58 → σ'.2.2 k = σ.2.2 k) (e64 : σ'.2.2 64 = σ.2.2 64) (e65 : σ'.2.2 65 = σ.2.2 65) (e67 : σ'.2.2 67 = σ.2.2 67) (e66 : σ'.2.2 66 = upd (σ.2.2 66) r.length (nI ((rv_L (y :: r)).length + 1))) (e41 : σ'.1 10 41 = nI ((rv_L (y :: r)).length + 1)) (e35 : σ'.1 10 35 = σ.1 10 35) (e48 : σ'.1 10 48 = σ.1 10 48) (ev : ∀ k i, 69 ≤ k → k ≤ 74 → i ≠ (rv_L (y :: r)).length → σ'.2.2 k i = σ.2.2 k i) (hl : (rv_L (y :: r)).length < 4096) (va : rv_at R σ' (rv_L (y :: r)).length v) : rr_I l a R σ0 σ' fl u ((y.1, y.2.1, y.2.2.1, y.2.2.2.1, v :: y.2.2.2.2) :: r, T) := by
  obtain ⟨h0, h1, h2, hD, hb, hv, h6⟩ := h
  have hb : rb_I l a fl (y :: r) σ := hb
  have hv : rv_I R (rv_L (y :: r)) σ := hv
  have eL : rv_L ((y.1, y.2.1, y.2.2.1, y.2.2.2.1, v :: y.2.2.2.2) :: r) = rv_L (y :: r) ++ [v] := by
    show rv_L r ++ (v :: y.2.2.2.2).reverse = (rv_L r ++ y.2.2.2.2.reverse) ++ [v]
    rw [List.reverse_cons, List.append_assoc]
  have yl : (rv_L (y :: r)).length = (rv_L r).length + y.2.2.2.2.length := by
    show (rv_L r ++ y.2.2.2.2.reverse).length = _
    rw [List.length_append, List.length_reverse]
  refine ⟨h0, h1, hF, fun i hi => ?_, ?_, ?_, fun z => e48.trans (h6 z)⟩
  · rw [eD 56 (by omega) (by omega), eD 57 (by omega) (by omega), eD 58 (by omega) (by omega)]
    exact hD i hi
  · obtain ⟨b1, b2, b3⟩ := hb
    refine ⟨b1, e35.trans b2, fun b z hz => ?_⟩
    have frE : ∀ b, b ≤ r.length → rv_fr ((y.1, y.2.1, y.2.2.1, y.2.2.2.1, v :: y.2.2.2.2) :: r) b = rv_fr (y :: r) b := fun b hb' => by
      unfold rv_fr
      rw [List.length_cons, List.length_cons, show r.length + 1 - b = (r.length - b) + 1 by omega, List.drop_succ_cons, List.drop_succ_cons]
    rw [rl_blkc] at hz
    by_cases q : b = r.length
    · rw [if_pos q] at hz
      cases hz
      obtain ⟨g1, g2, g3, g4⟩ := b3 b y (by rw [rl_blkc, if_pos q])
      refine ⟨g1, g2, g3, ?_⟩
      have f0 : rv_fr (y :: r) b = (rv_L r).length := by
        unfold rv_fr
        rw [List.length_cons, q, show r.length + 1 - r.length = 1 by omega]; rfl
      unfold rb_at at g4 ⊢
      rw [frE b (by omega), e64, e65, e66, e67, upd_if, if_pos q]
      refine ⟨g4.1, g4.2.1, ?_, g4.2.2.2⟩
      rw [f0, yl]
      show _ = nI (_ + (v :: y.2.2.2.2).length)
      rw [List.length_cons]
      congr 1
    · rw [if_neg q] at hz
      have hl := rl_blkl hz
      obtain ⟨g1, g2, g3, g4⟩ := b3 b z (by rw [rl_blkc, if_neg q]; exact hz)
      refine ⟨g1, g2, g3, ?_⟩
      unfold rb_at at g4 ⊢
      rw [frE b (by omega), e64, e65, e66, e67, upd_if, if_neg q]
      exact g4
  · obtain ⟨v1, v2, v3⟩ := hv
    show rv_I R (rv_L ((y.1, y.2.1, y.2.2.1, y.2.2.2.1, v :: y.2.2.2.2) :: r)) σ'
    rw [eL]
    refine ⟨by rw [List.length_append, List.length_singleton]; omega, by rw [List.length_append, List.length_singleton]; exact e41, fun i w hi => ?_⟩
    by_cases q : i < (rv_L (y :: r)).length
    · rw [List.getElem?_append_left q] at hi
      have := v3 i w hi
      unfold rv_at at this ⊢
      rw [ev 69 i (by omega) (by omega) (by omega), ev 70 i (by omega) (by omega) (by omega), ev 71 i (by omega) (by omega) (by omega), ev 72 i (by omega) (by omega) (by omega), ev 73 i (by omega) (by omega) (by omega), ev 74 i (by omega) (by omega) (by omega)]
      exact this
    · rw [List.getElem?_append_right (by omega)] at hi
      have e0 : i = (rv_L (y :: r)).length := by
        rcases Nat.eq_zero_or_pos (i - (rv_L (y :: r)).length) with w' | w'
        · omega
        · rw [List.getElem?_eq_none (by rw [List.length_singleton]; omega)] at hi; cases hi
      rw [e0, Nat.sub_self] at hi
      cases hi
      rw [e0]
      exact va
theorem ra_F {σ0 σ σ' : pm_S} {G cb : Nat} {n s t p : Int32} (h : rr_F σ0 σ) (x : ra_X σ σ' G cb n s t p) : rr_F σ0 σ' := by
  obtain ⟨x1, x2, x3, x4, x5, x6, _⟩ := x
  refine ⟨fun c b => ?_, x3.trans h.2.1, fun k => ?_, ?_⟩
  · rcases x1 c b with q | q
    · exact Or.inl ⟨q.1, by omega⟩
    · rw [q]; exact h.1 c b
  · by_cases q : (56 ≤ k ∧ k ≤ 58) ∨ (64 ≤ k ∧ k ≤ 74)
    · rcases q with q | q
      · exact Or.inl q
      · exact Or.inr (Or.inl q)
    · rw [x4 k (by omega) (by omega)]; exact h.2.2.1 k
  · obtain ⟨c, c1, c2⟩ := h.2.2.2
    exact ⟨c, c1, ((x1 10 35).resolve_left (fun z => absurd z.2 (by decide))).trans c2⟩
