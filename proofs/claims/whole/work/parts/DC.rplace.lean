/-! PLACES of the reference -/
theorem re285l {d : Nat} {l : List pg_N} {a : Nat → Nat} {R : Int32 → Int32 → Prop} {σ0 σ : pm_S} {fl : Bool} {u : Nat} {A : rl_A} {Q : Option Value → pm_S → Prop} {i b : Nat} {y : rl_B} {x : Int32} (h : rr_I l a R σ0 σ fl u A) (hb : rl_blk A.1 b = some y) (hbl : b + 1 = A.1.length) (i0 : i < l.length) (hk : rp_nk (rl_k l i) = false) (ex : rl_v l i = x) (hx : x ≠ -1) (hu : ∀ v ∈ y.2.2.2.2, v.2.1 = 3 → v.2.2.2.2.1 = -1) (h1 : (∃ v ∈ y.2.2.2.2, v.2.2.2.2.1 = x) → Q (some (.int 14)) σ) (h0 : (∀ v ∈ y.2.2.2.2, ¬ v.2.2.2.2.1 = x) → Q (some (.int 0)) σ) : ∀ (n j : Nat), j + n = y.2.2.2.2.length → (∀ k v, k < j → y.2.2.2.2.reverse[k]? = some v → ¬ v.2.2.2.2.1 = x) → pm_WP pm_Y0 (pm_call pm_Y0 (d + 1)) 10 prog_14_method_86_code (some FieldType.int) Q 37 [.ref 10, .int (nI (a i)), .int (nI (rv_fr A.1 b + j))] [] σ := by
  obtain ⟨g1, g2⟩ := rv_get hb
  have hG := h.2.2.2.2.2.1.1
  have e35 := h.2.2.2.2.1.2.1
  have hB9 := h.2.2.2.2.1.1
  have es : nI A.1.length - 1 = nI b := by rw [show nI A.1.length - 1 = nI (A.1.length - 1) from nI_sbl (b := 1) (by omega)]; congr 1; omega
  have to := (h.2.2.2.2.1.2.2 b y hb).2.2.2.2.2.1
  have eb := nI_toInt (n := b) (by omega)
  have ecb := nI_clamp (n := b) (by omega)
  have eto := nI_toInt (n := rv_fr A.1 b + y.2.2.2.2.length) (by omega)
  have bi := rt_b (rr_T h) i0
  intro n
  induction n with
  | zero =>
    intro j hj hno
    have ej := nI_toInt (n := rv_fr A.1 b + j) (by omega)
    refine wq_l 38 d285_37 rfl rfl rfl rfl ?_
    refine wq_l 39 d285_38 rfl rfl rfl rfl ?_
    refine wq_gr (ci := 10) (j := 38) (q := 66) 42 d285_39 rfl rfl rfl rfl ?_
    refine wq_l 43 d285_42 rfl rfl rfl rfl ?_
    refine wq_gf (ci := 10) (j := 35) (f := 0) (v := .int (nI A.1.length)) 46 d285_43 rfl rfl rfl (congrArg Value.int (e35)) rfl ?_
    refine wq_k 47 1 d285_46 (by decide) rfl ?_
    refine wq_a 48 d285_47 rfl rfl ?_
    rw [es]
    refine wq_al 49 d285_48 rfl rfl rfl (vp_in_iff.mpr (by rw [eb]; omega)) ?_
    rw [ecb, to]
    refine wq_b 76 52 d285_49 rfl (by decide) rfl (fun c49 => ?_) (fun c49 => absurd (by rw [i_le, eto, ej]; omega) c49)
    refine wq_k 77 0 d285_76 (by decide) rfl ?_
    refine wq_ri d285_77 (rfl) ?_
    refine h0 (fun v hv z => ?_)
    obtain ⟨k, hk⟩ := List.getElem?_of_mem (List.mem_reverse.mpr hv)
    have kl : k < y.2.2.2.2.length := by
      rcases Nat.lt_or_ge k y.2.2.2.2.length with w | w
      · exact w
      · rw [List.getElem?_eq_none (by rw [List.length_reverse]; exact w)] at hk; cases hk
    exact hno k v (by omega) hk z
  | succ n ih =>
    intro j hj hno
    have ej := nI_toInt (n := rv_fr A.1 b + j) (by omega)
    have ecj := nI_clamp (n := rv_fr A.1 b + j) (by omega)
    have hjl : j < y.2.2.2.2.reverse.length := by rw [List.length_reverse]; omega
    have ev : y.2.2.2.2.reverse[j]? = some (y.2.2.2.2.reverse[j]'hjl) := List.getElem?_eq_getElem hjl
    have eG := g2 j (by omega)
    rw [ev] at eG
    have mem : (y.2.2.2.2.reverse[j]'hjl) ∈ y.2.2.2.2 := List.mem_reverse.mp (List.getElem_mem hjl)
    generalize y.2.2.2.2.reverse[j]'hjl = v at *
    have va := h.2.2.2.2.2.1.2.2 _ v eG
    have e73 : σ.2.2 73 (rv_fr A.1 b + j) = v.2.2.2.2.1 := by
      by_cases s3 : v.2.1 = 3
      · rw [(va.2.2 s3).2, hu v mem s3]
      · exact (va.2.1 s3).2.2.2.1
    refine wq_l 38 d285_37 rfl rfl rfl rfl ?_
    refine wq_l 39 d285_38 rfl rfl rfl rfl ?_
    refine wq_gr (ci := 10) (j := 38) (q := 66) 42 d285_39 rfl rfl rfl rfl ?_
    refine wq_l 43 d285_42 rfl rfl rfl rfl ?_
    refine wq_gf (ci := 10) (j := 35) (f := 0) (v := .int (nI A.1.length)) 46 d285_43 rfl rfl rfl (congrArg Value.int (e35)) rfl ?_
    refine wq_k 47 1 d285_46 (by decide) rfl ?_
    refine wq_a 48 d285_47 rfl rfl ?_
    rw [es]
    refine wq_al 49 d285_48 rfl rfl rfl (vp_in_iff.mpr (by rw [eb]; omega)) ?_
    rw [ecb, to]
    refine wq_b 76 52 d285_49 rfl (by decide) rfl (fun c49 => absurd c49 (by rw [i_le, eto, ej]; omega)) (fun c49 => ?_)
    refine wq_l 53 d285_52 rfl rfl rfl rfl ?_
    refine wq_gr (ci := 10) (j := 46) (q := 73) 56 d285_53 rfl rfl rfl rfl ?_
    refine wq_l 57 d285_56 rfl rfl rfl rfl ?_
    refine wq_al 58 d285_57 rfl rfl rfl (vp_in_iff.mpr (by rw [ej]; omega)) ?_
    rw [ecj, e73]
    refine wq_l 59 d285_58 rfl rfl rfl rfl ?_
    refine wq_gr (ci := 10) (j := 18) (q := 51) 62 d285_59 rfl rfl rfl rfl ?_
    refine wq_l 63 d285_62 rfl rfl rfl rfl ?_
    refine wq_al 64 d285_63 rfl rfl rfl (bi) ?_
    rw [rt_v (rr_T h) i0 hk, ex]
    refine wq_b 70 67 d285_64 rfl (by decide) rfl (fun c64 => ?_) (fun c64 => ?_)
    · -- pc 70
      refine wq_i 73 d285_70 rfl rfl rfl ?_
      refine wq_g 37 d285_73 (by decide) ?_
      rw [show nI (rv_fr A.1 b + j) + Int32.ofInt 1 = nI (rv_fr A.1 b + (j + 1)) from nI_1 _]
      refine ih (j + 1) (by omega) (fun k w hk hw => ?_)
      by_cases q : k = j
      · rw [q, ev] at hw
        cases hw
        exact c64
      · exact hno k w (by omega) hw
    · -- pc 67
      refine wq_k 69 14 d285_67 (by decide) rfl ?_
      refine wq_ri d285_69 (rfl) ?_
      exact h1 ⟨v, mem, Classical.not_not.mp c64⟩
theorem re285 {d : Nat} {l : List pg_N} {a : Nat → Nat} {R : Int32 → Int32 → Prop} {σ0 σ : pm_S} {fl : Bool} {u : Nat} {A : rl_A} {Q : Option Value → pm_S → Prop} {NN i p : Nat} (hG : lg_G l NN) (h : rr_I l a R σ0 σ fl u A) (hp : pv_B A.1) (hB : A.1 ≠ []) (i0 : i < l.length) (hi : 0 < i) (hk : rl_k l i = 7) (hpp : rl_par l i = p) (hpl : p < l.length) (hnm : ((rl_c l p).filter (fun c => rl_k l c == 6)).length = i - p - 1) (hx : rl_v l i ≠ -1) (hu : ∀ v ∈ (rl_cur A).2.2.2.2, v.2.1 = 3 → v.2.2.2.2.1 = -1) (hv0 : ∃ v0 vs, (rl_cur A).2.2.2.2 = v0 :: vs ∧ v0.2.1 = 3) (hQ : rr_Q l a R σ0 fl u (if (rl_cur A).1 ≠ 3 ∨ 1 < i - rl_par l i - 1 ∨ ((rl_cur A).2.2.2.2.any (fun v => decide (v.2.2.2.2.1 = rl_v l i))) = true then 14 else 0, rl_up1 A ((rl_cur A).1, (rl_cur A).2.1, (rl_cur A).2.2.1, (rl_cur A).2.2.2.1, rl_atp (rl_v l i) (rl_cur A).2.2.2.2)) Q) : pm_call pm_Y0 (d + 2) 285 [.ref 10, .int (nI (a i))] σ Q := by
  have hl := rl_len hB
  have e35 := h.2.2.2.2.1.2.1
  have hB9 := h.2.2.2.2.1.1
  have es : nI A.1.length - 1 = nI (A.1.length - 1) := nI_sbl (b := 1) (by omega)
  have eb := nI_toInt (n := A.1.length - 1) (by omega)
  have ecb := nI_clamp (n := A.1.length - 1) (by omega)
  obtain ⟨b1, b2, b3, b4⟩ := h.2.2.2.2.1.2.2 _ _ (rl_blkh hB)
  have fr := b4.2.1
  have bi := rt_b (rr_T h) i0
  have eq := (rt_q (rr_T h) hG i0).trans (if_neg (by omega))
  rw [hpp] at eq hQ
  have kc := (pv_cur hp hB).1
  have hil := hG.2.2.2.1
  have en := nI_toInt (n := i - p - 1) (by omega)
  have hS : rr_I l a R σ0 σ fl u (rl_up1 A ((rl_cur A).1, (rl_cur A).2.1, (rl_cur A).2.2.1, (rl_cur A).2.2.2.1, rl_atp (rl_v l i) (rl_cur A).2.2.2.2)) := by
    obtain ⟨v0, vs, w1, w2⟩ := hv0
    obtain ⟨B, T⟩ := A
    cases B with
    | nil => exact absurd rfl hB
    | cons y r => exact rr_atp h w1 w2
  refine wq_m m285 (Nat.le_of_ble_eq_true rfl) (by decide) rfl ?_
  refine wq_l 1 d285_0 rfl rfl rfl rfl ?_
  refine wq_v 4 [] d285_1 rfl rfl m267 rfl rfl (Nat.le_of_ble_eq_true rfl) rfl (re267 h hB ?_)
  refine wq_k 5 3 d285_4 (by decide) rfl ?_
  refine wq_b 22 8 d285_5 rfl (by decide) rfl (fun c5 => ?_) (fun c5 => ?_)
  · -- pc 22
    refine wq_k 24 14 d285_22 (by decide) rfl ?_
    refine wq_ri d285_24 (rfl) ?_
    exact rr_q1 (k := 14) hQ (rr_Fi h) (if_pos (Or.inl (fun z => c5 (by rw [z]; rfl)))) (by decide)
  · -- pc 8
    refine wq_l 9 d285_8 rfl rfl rfl rfl ?_
    refine wq_l 10 d285_9 rfl rfl rfl rfl ?_
    refine wq_gr (ci := 10) (j := 22) (q := 55) 13 d285_10 rfl rfl rfl rfl ?_
    refine wq_l 14 d285_13 rfl rfl rfl rfl ?_
    refine wq_al 15 d285_14 rfl rfl rfl (bi) ?_
    rw [eq]
    refine wq_v 18 [_] d285_15 rfl rfl m278 rfl rfl (Nat.le_of_ble_eq_true rfl) rfl (re278 hG h hpl ?_)
    rw [hnm]
    refine wq_k 19 1 d285_18 (by decide) rfl ?_
    refine wq_b 25 22 d285_19 rfl (by decide) rfl (fun c19 => ?_) (fun c19 => ?_)
    · -- pc 25
      refine wq_l 26 d285_25 rfl rfl rfl rfl ?_
      refine wq_gr (ci := 10) (j := 37) (q := 65) 29 d285_26 rfl rfl rfl rfl ?_
      refine wq_l 30 d285_29 rfl rfl rfl rfl ?_
      refine wq_gf (ci := 10) (j := 35) (f := 0) (v := .int (nI A.1.length)) 33 d285_30 rfl rfl rfl (congrArg Value.int (e35)) rfl ?_
      refine wq_k 34 1 d285_33 (by decide) rfl ?_
      refine wq_a 35 d285_34 rfl rfl ?_
      rw [es]
      refine wq_al 36 d285_35 rfl rfl rfl (vp_in_iff.mpr (by rw [eb]; omega)) ?_
      rw [ecb, fr]
      refine wq_s 37 d285_36 rfl rfl (Nat.le_of_ble_eq_true rfl) rfl rfl ?_
      refine re285l h (rl_blkh hB) (by omega) i0 (by rw [hk]; rfl) rfl hx hu (fun e => ?_) (fun e => ?_) (rl_cur A).2.2.2.2.length 0 (by exact Nat.zero_add _) (fun k v hk => absurd hk (Nat.not_lt_zero _))
      · obtain ⟨v, v1, v2⟩ := e
        exact rr_q1 (k := 14) hQ (rr_Fi h) (if_pos (Or.inr (Or.inr (List.any_eq_true.mpr ⟨v, v1, decide_eq_true v2⟩)))) (by decide)
      · refine rr_q0 hQ hS (if_neg ?_)
        rintro (z | z | z)
        · exact z (hp_inj (b := 3) (by omega) (by decide) (Classical.not_not.mp c5))
        · rw [i_le, en] at c19; have c19 : _ ≤ (1 : Int) := c19; omega
        · obtain ⟨v, v1, v2⟩ := List.any_eq_true.mp z
          exact e v v1 (of_decide_eq_true v2)
    · -- pc 22
      refine wq_k 24 14 d285_22 (by decide) rfl ?_
      refine wq_ri d285_24 (rfl) ?_
      exact rr_q1 (k := 14) hQ (rr_Fi h) (if_pos (Or.inr (Or.inl (by rw [i_le, en] at c19; have c19 : ¬ _ ≤ (1 : Int) := c19; omega)))) (by decide)
