/-! NAMES that are declared, in the class -/
/-- a name comes -/
def rl_dcl (A : rl_A) (x : Int32) (s : Nat) : rl_A := rl_up1 A ((rl_cur A).1, (rl_cur A).2.1, (rl_cur A).2.2.1, (rl_cur A).2.2.2.1, (x, 3, 0, s, -1, 0) :: (rl_cur A).2.2.2.2)
theorem cr130 {d : Nat} {l : List pg_N} {NN nx : Nat} {σ0 σ : pm_S} {A : rl_A} {Q : Option Value → pm_S → Prop} {x : Int32} {s : Nat} (h : cr_I l NN σ0 σ nx A) (hB : A.1 ≠ []) (hF : (cv_L A.1).length < 4128) (hx : 0 ≤ x.toInt ∧ x.toInt < NN) (hs : s ≤ 2) (hQ : ∀ σ', cr_I l NN σ0 σ' nx (rl_dcl A x s) → Q (some (.int (nI (cv_L A.1).length))) σ') : pm_call pm_Y0 (d + 2) 130 [.ref 6, .int (nI (8 + A.1.length)), .int x, .int (nI s)] σ Q := by
  obtain ⟨q1, q2, q3, q4, q5, q6, q7⟩ := h
  refine cf130 q1 q6 hF hx hs (fun σ' hI u => hQ σ' ?_)
  obtain ⟨B, T⟩ := A
  cases B with
  | nil => exact absurd rfl hB
  | cons y r =>
    refine ⟨q1, q2, cv_Uc q3 u, cv_Ud q4 u, ?_, ?_, ?_⟩
    · refine cb_vs (y := y) (cv_Ub q5 u) rfl rfl rfl rfl ?_
      exact rl_insc (v := (x, 3, 0, s, -1, 0)) (vs := y.2.2.2.2) rfl rfl
    · have e : cv_L ((rl_dcl (y :: r, T) x s).1) = cv_L (y :: r) ++ [(8 + (y :: r).length, (x, 3, 0, s, -1, 0))] := by
        show cv_L r ++ ((x, 3, 0, s, -1, 0) :: y.2.2.2.2).reverse.map _ = (cv_L r ++ y.2.2.2.2.reverse.map _) ++ _
        rw [List.reverse_cons, List.map_append, List.append_assoc, List.length_cons, show 8 + (r.length + 1) = 9 + r.length by omega]
        rfl
      rw [e]; exact hI
    · intro c hc
      have Pc := cv_Up q7 u c hc
      refine ⟨Pc.1, Pc.2.trans ⟨?_, ?_⟩⟩
      · rintro ⟨v, m1, m2⟩
        exact ⟨v, List.mem_cons_of_mem _ m1, m2⟩
      · rintro ⟨v, m1, m2, m3⟩
        rcases List.mem_cons.mp m1 with w | w
        · rw [w] at m2; exact absurd rfl m2
        · exact ⟨v, w, m2, m3⟩
theorem cb_nmt2 {A : rl_A} {x : Int32} : rl_taken A x = true ↔ (cb_nm A.1 x ≠ none ∨ rl_fn x ≠ none) := by
  unfold rl_taken cb_nm
  cases rl_sb x with
  | some s => simp
  | none =>
    cases rl_fn x with
    | some f => simp
    | none =>
      cases rl_own A.1 x with
      | none => simp
      | some w => simp
theorem hp_oin {q : Option Nat} {N : Nat} (hq : ∀ i, q = some i → i < 2 ^ 30) : hp_oi q = -1 ↔ q = none := by
  cases q with
  | none => exact ⟨fun _ => rfl, fun _ => rfl⟩
  | some i => exact ⟨fun z => absurd z (hp_ne (by have := hq i rfl; omega)), fun z => by cases z⟩
theorem cr159 {d : Nat} {l : List pg_N} {NN nx : Nat} {σ0 σ : pm_S} {A : rl_A} {Q : Option Value → pm_S → Prop} {i sc g : Nat} (hG : lg_G l NN) (h : cr_I l NN σ0 σ nx A) (hB : A.1 ≠ []) (hF : (cv_L A.1).length < 4128) (hi : i < l.length) (hsc : sc < l.length) (hg : rl_v l sc = nI g) (hg2 : g ≤ 2) (hx : 0 ≤ (rl_v l i).toInt ∧ (rl_v l i).toInt < NN) (hQ : ∀ σ' A', cr_I l NN σ0 σ' nx A' → ((((if (rl_find (rl_cur A).2.2.2.2 (rl_v l i)).isSome = true ∨ rl_taken A (rl_v l i) = true then (12, A) else (0, rl_dcl A (rl_v l i) (rl_v l sc).toNatClampNeg)) : Nat × rl_A)).1 = 0 → A' = (((if (rl_find (rl_cur A).2.2.2.2 (rl_v l i)).isSome = true ∨ rl_taken A (rl_v l i) = true then (12, A) else (0, rl_dcl A (rl_v l i) (rl_v l sc).toNatClampNeg)) : Nat × rl_A)).2) → Q (some (.int (nI (((if (rl_find (rl_cur A).2.2.2.2 (rl_v l i)).isSome = true ∨ rl_taken A (rl_v l i) = true then (12, A) else (0, rl_dcl A (rl_v l i) (rl_v l sc).toNatClampNeg)) : Nat × rl_A)).1))) σ') : pm_call pm_Y0 (d + 3) 159 [.ref 7, .int (nI i), .int (nI sc)] σ Q := by
  rw [hg, nI_clamp (by omega)] at hQ
  have hB9 := h.2.2.2.2.1.1
  have n33 := hp_oin (N := 0) (q := cb_nm A.1 (rl_v l i)) (fun j hj => by have := cb_nml hj; omega)
  have n44 := hp_oin (N := 0) (q := rl_fn (rl_v l i)) (fun j hj => by have := rl_fnl hj; omega)
  have h12 : ((rl_find (rl_cur A).2.2.2.2 (rl_v l i)).isSome = true ∨ rl_taken A (rl_v l i) = true) → Q (some (.int 12)) σ := fun z => by
    rw [if_pos z] at hQ; exact hQ _ _ h (fun z => absurd (show (12 : Nat) = 0 from z) (by decide))
  have h0 : ¬ ((rl_find (rl_cur A).2.2.2.2 (rl_v l i)).isSome = true ∨ rl_taken A (rl_v l i) = true) → ∀ σ', cr_I l NN σ0 σ' nx (rl_dcl A (rl_v l i) g) → Q (some (.int 0)) σ' := fun z σ' g' => by
    rw [if_neg z] at hQ; exact hQ _ _ g' (fun _ => rfl)
  clear hQ
  refine wq_m m159 (Nat.le_of_ble_eq_true rfl) (by decide) rfl ?_
  refine wq_l 1 d159_0 rfl rfl rfl rfl ?_
  refine wq_gr (ci := 7) (j := 0) (q := 3) 4 d159_1 rfl rfl rfl rfl ?_
  refine wq_l 5 d159_4 rfl rfl rfl rfl ?_
  refine wq_v 8 [_] d159_5 rfl rfl m66 rfl rfl (Nat.le_of_ble_eq_true rfl) rfl (ck66 (cr_S h) (by omega) ?_)
  refine wq_s 9 d159_8 rfl rfl (Nat.le_of_ble_eq_true rfl) rfl rfl ?_
  refine wq_l 10 d159_9 rfl rfl rfl rfl ?_
  refine wq_gr (ci := 7) (j := 3) (q := 6) 13 d159_10 rfl rfl rfl rfl ?_
  refine wq_l 14 d159_13 rfl rfl rfl rfl ?_
  refine wq_gr (ci := 7) (j := 2) (q := 5) 17 d159_14 rfl rfl rfl rfl ?_
  refine wq_v 20 [] d159_17 rfl rfl m116 rfl rfl (Nat.le_of_ble_eq_true rfl) rfl (cr116 h hB ?_)
  refine wq_l 21 d159_20 rfl rfl rfl rfl ?_
  refine wq_v 24 [_, _] d159_21 rfl rfl m134 rfl rfl (Nat.le_of_ble_eq_true rfl) rfl (cr134 h hB hx (fun e21 => ?_) (fun i21 o21 v21 e21 f21 => ?_))
  · -- fork 21
    refine wq_k 25 (-1) d159_24 (by decide) rfl ?_
    refine wq_b 48 28 d159_25 rfl (by decide) rfl (fun c25 => absurd c25 (fun z => z rfl)) (fun c25 => ?_)
    refine wq_l 29 d159_28 rfl rfl rfl rfl ?_
    refine wq_gr (ci := 7) (j := 2) (q := 5) 32 d159_29 rfl rfl rfl rfl ?_
    refine wq_l 33 d159_32 rfl rfl rfl rfl ?_
    refine wq_v 36 [_] d159_33 rfl rfl m115 rfl rfl (Nat.le_of_ble_eq_true rfl) rfl (cb115 h.1 h.2.2.2.2.1 hx ?_)
    refine wq_k 37 (-1) d159_36 (by decide) rfl ?_
    refine wq_b 48 40 d159_37 rfl (by decide) rfl (fun c37 => ?_) (fun c37 => ?_)
    · -- pc 48
      refine wq_k 50 12 d159_48 (by decide) rfl ?_
      refine wq_ri d159_50 (rfl) ?_
      exact h12 (Or.inr (cb_nmt2.mpr (Or.inl (fun z => c37 (n33.mpr z)))))
    · -- pc 40
      refine wq_l 41 d159_40 rfl rfl rfl rfl ?_
      refine wq_vs 44 [_] d159_41 rfl rfl m22 rfl (Nat.le_of_ble_eq_true rfl) rfl (sp22 ?_)
      refine wq_k 45 (-1) d159_44 (by decide) rfl ?_
      refine wq_b 51 48 d159_45 rfl (by decide) rfl (fun c45 => ?_) (fun c45 => ?_)
      · -- pc 51
        refine wq_l 52 d159_51 rfl rfl rfl rfl ?_
        refine wq_gr (ci := 7) (j := 3) (q := 6) 55 d159_52 rfl rfl rfl rfl ?_
        refine wq_l 56 d159_55 rfl rfl rfl rfl ?_
        refine wq_gr (ci := 7) (j := 2) (q := 5) 59 d159_56 rfl rfl rfl rfl ?_
        refine wq_v 62 [] d159_59 rfl rfl m116 rfl rfl (Nat.le_of_ble_eq_true rfl) rfl (cr116 h hB ?_)
        refine wq_l 63 d159_62 rfl rfl rfl rfl ?_
        refine wq_l 64 d159_63 rfl rfl rfl rfl ?_
        refine wq_gr (ci := 7) (j := 0) (q := 3) 67 d159_64 rfl rfl rfl rfl ?_
        refine wq_l 68 d159_67 rfl rfl rfl rfl ?_
        refine wq_v 71 [_] d159_68 rfl rfl m66 rfl rfl (Nat.le_of_ble_eq_true rfl) rfl (ck66 (cr_S h) hsc ?_)
        rw [hg]
        refine wq_v 74 [_, _, _] d159_71 rfl rfl m130 rfl rfl (Nat.le_of_ble_eq_true rfl) rfl (cr130 h hB hF hx hg2 (fun σ71 h71 => ?_))
        refine wq_a 75 d159_74 rfl rfl ?_
        refine wq_k 76 0 d159_75 (by decide) rfl ?_
        refine wq_ri d159_76 (rfl) ?_
        refine h0 (fun z => ?_) _ h71
        rcases z with w | w
        · rw [e21] at w; cases w
        · rcases cb_nmt2.mp w with u | u
          · exact u (n33.mp (Classical.not_not.mp c37))
          · exact u (n44.mp c45)
      · -- pc 48
        refine wq_k 50 12 d159_48 (by decide) rfl ?_
        refine wq_ri d159_50 (rfl) ?_
        exact h12 (Or.inr (cb_nmt2.mpr (Or.inr (fun z => c45 (n44.mpr z)))))
  · -- fork 21
    have hm21 := List.mem_of_find?_eq_some e21
    have hi21 : i21 < 4128 := by have := cv_lt f21; have := (h).2.2.2.2.2.1.1; omega
    refine wq_k 25 (-1) d159_24 (by decide) rfl ?_
    refine wq_b 48 28 d159_25 rfl (by decide) rfl (fun c25 => ?_) (fun c25 => absurd (hp_ne (by omega)) c25)
    refine wq_k 50 12 d159_48 (by decide) rfl ?_
    refine wq_ri d159_50 (rfl) ?_
    exact h12 (Or.inl (by rw [e21]; rfl))
theorem cr158 {d : Nat} {l : List pg_N} {NN nx : Nat} {σ0 σ : pm_S} {A : rl_A} {Q : Option Value → pm_S → Prop} {i p : Nat} (hG : lg_G l NN) (h : cr_I l NN σ0 σ nx A) (hp : pv_B A.1) (hB : A.1 ≠ []) (hF : rl_k l p = 5 → (cv_L A.1).length < 4128) (hs : ¬ rl_k l p = 5 → ¬ rl_k l p = 33 → rl_setl A) (hi : i < l.length) (hn : i < nx) (hpp : (rl_up l i).head? = some p) (hpi : p < i) (h5 : rl_k l p = 5 → 0 < p ∧ ∃ g, g ≤ 2 ∧ rl_v l (rl_par l p) = nI g) (hx : 0 ≤ (rl_v l i).toInt ∧ (rl_v l i).toInt < NN) (hQ : ∀ σ' A', cr_I l NN σ0 σ' nx A' → ((((if rl_k l p = 5 then (if (rl_find (rl_cur A).2.2.2.2 (rl_v l i)).isSome = true ∨ rl_taken A (rl_v l i) = true then (12, A) else (0, rl_dcl A (rl_v l i) (rl_v l (rl_par l p)).toNatClampNeg)) else if rl_k l p = 33 then (0, A) else (rl_srt A (rl_v l i) 0, rl_ce (rl_ty A i (rl_var A (rl_v l i)).2.2.1) i (nI (rl_var A (rl_v l i)).2.2.2.2.2))) : Nat × rl_A)).1 = 0 → A' = (((if rl_k l p = 5 then (if (rl_find (rl_cur A).2.2.2.2 (rl_v l i)).isSome = true ∨ rl_taken A (rl_v l i) = true then (12, A) else (0, rl_dcl A (rl_v l i) (rl_v l (rl_par l p)).toNatClampNeg)) else if rl_k l p = 33 then (0, A) else (rl_srt A (rl_v l i) 0, rl_ce (rl_ty A i (rl_var A (rl_v l i)).2.2.1) i (nI (rl_var A (rl_v l i)).2.2.2.2.2))) : Nat × rl_A)).2) → Q (some (.int (nI (((if rl_k l p = 5 then (if (rl_find (rl_cur A).2.2.2.2 (rl_v l i)).isSome = true ∨ rl_taken A (rl_v l i) = true then (12, A) else (0, rl_dcl A (rl_v l i) (rl_v l (rl_par l p)).toNatClampNeg)) else if rl_k l p = 33 then (0, A) else (rl_srt A (rl_v l i) 0, rl_ce (rl_ty A i (rl_var A (rl_v l i)).2.2.1) i (nI (rl_var A (rl_v l i)).2.2.2.2.2))) : Nat × rl_A)).1))) σ') : pm_call pm_Y0 (d + 4) 158 [.ref 7, .int (nI i)] σ Q := by
  have kp := (lg_V hG (show p < l.length by omega)).1
  have ek := nI_toInt (n := rl_k l p) (by omega)
  refine wq_m m158 (Nat.le_of_ble_eq_true rfl) (by decide) rfl ?_
  refine wq_l 1 d158_0 rfl rfl rfl rfl ?_
  refine wq_gr (ci := 7) (j := 0) (q := 3) 4 d158_1 rfl rfl rfl rfl ?_
  refine wq_l 5 d158_4 rfl rfl rfl rfl ?_
  refine wq_v 8 [_] d158_5 rfl rfl m69 rfl rfl (Nat.le_of_ble_eq_true rfl) rfl (ck69 h hi hn ?_)
  rw [hpp, hp_os]
  refine wq_s 9 d158_8 rfl rfl (Nat.le_of_ble_eq_true rfl) rfl rfl ?_
  refine wq_l 10 d158_9 rfl rfl rfl rfl ?_
  refine wq_gr (ci := 7) (j := 0) (q := 3) 13 d158_10 rfl rfl rfl rfl ?_
  refine wq_l 14 d158_13 rfl rfl rfl rfl ?_
  refine wq_v 17 [_] d158_14 rfl rfl m65 rfl rfl (Nat.le_of_ble_eq_true rfl) rfl (ck65 (i := p) (cr_S h) (by omega) ?_)
  refine wq_lsw [(5, 44), (33, 58)] 60 d158_17 (by decide) (List.forall_mem_cons.mpr ⟨fun e17 => ?_, List.forall_mem_cons.mpr ⟨fun e17 => ?_, fun _ h => absurd h List.not_mem_nil⟩⟩) (fun e17 => ?_)
  · -- case 5
    have e17 : rl_k l p = 5 := hp_inj (by omega) (by decide) e17
    obtain ⟨p0, pg, pg1, pg2⟩ := h5 e17
    obtain ⟨pq1, pq2, pq3⟩ := lg_par hG (show p < l.length by omega) p0
    rw [if_pos e17] at hQ
    refine wq_l 45 d158_44 rfl rfl rfl rfl ?_
    refine wq_l 46 d158_45 rfl rfl rfl rfl ?_
    refine wq_l 47 d158_46 rfl rfl rfl rfl ?_
    refine wq_gr (ci := 7) (j := 0) (q := 3) 50 d158_47 rfl rfl rfl rfl ?_
    refine wq_l 51 d158_50 rfl rfl rfl rfl ?_
    refine wq_v 54 [_] d158_51 rfl rfl m69 rfl rfl (Nat.le_of_ble_eq_true rfl) rfl (ck69 (i := p) h (by omega) (by omega) ?_)
    rw [pq3, hp_os]
    refine wq_v 57 [_, _] d158_54 rfl rfl m159 rfl rfl (Nat.le_of_ble_eq_true rfl) rfl (cr159 (sc := rl_par l p) hG h hB (hF e17) hi (by omega) pg2 pg1 hx (fun σ54 A54 h54 g54 => ?_))
    refine wq_ri d158_57 (rfl) ?_
    exact hQ _ _ h54 g54
  · -- case 33
    have e17 : rl_k l p = 33 := hp_inj (by omega) (by decide) e17
    rw [if_neg (by omega), if_pos e17] at hQ
    refine wq_k 59 0 d158_58 (by decide) rfl ?_
    refine wq_ri d158_59 (rfl) ?_
    exact hQ _ _ h (fun _ => rfl)
  · -- default
    have w17_5 := e17 (5, 44) (by decide)
    have w17_33 := e17 (33, 58) (by decide)
    have n5 : ¬ rl_k l p = 5 := fun z => w17_5 (by rw [z]; rfl)
    have n33 : ¬ rl_k l p = 33 := fun z => w17_33 (by rw [z]; rfl)
    rw [if_neg n5, if_neg n33] at hQ
    refine wq_l 61 d158_60 rfl rfl rfl rfl ?_
    refine wq_gr (ci := 7) (j := 4) (q := 8) 64 d158_61 rfl rfl rfl rfl ?_
    refine wq_l 65 d158_64 rfl rfl rfl rfl ?_
    refine wq_v 68 [_] d158_65 rfl rfl m165 rfl rfl (Nat.le_of_ble_eq_true rfl) rfl (cr165 h hp hB (hs n5 n33) hi hx (fun σ65 A65 h65 g65 => ?_))
    refine wq_ri d158_68 (rfl) ?_
    exact hQ _ _ h65 g65
def rl_zz (l : List pg_N) (B : List rl_B) (y : Nat) : Nat := if rl_k l y = 8 then 1 else if rl_k l y = 9 then (rl_many l y).toNat else if (rl_inst B (rl_v l y)).getD 0 < 9 then rl_ssz ((rl_inst B (rl_v l y)).getD 0) else ((rl_blk B ((rl_inst B (rl_v l y)).getD 0 - 9)).getD (0, -1, 0, 0, [])).2.2.2.1
theorem rl_instl {B : List rl_B} {x : Int32} {q : Nat} (h : rl_inst B x = some q) : q < 9 ∨ (9 ≤ q ∧ ∃ y, rl_own B.tail x = some (q - 9, y) ∧ rl_blk B (q - 9) = some y ∧ y.1 = 2 ∧ q - 9 + 1 < B.length) := by
  unfold rl_inst at h
  cases e : rl_sb x with
  | some s =>
    rw [e] at h
    cases h
    left
    unfold rl_sb at e
    by_cases w : 41 ≤ x.toInt ∧ x.toInt < 50
    · rw [if_pos w] at e
      cases e
      have := cl_i x (by omega)
      omega
    · rw [if_neg w] at e; cases e
  | none =>
    rw [e] at h
    dsimp only at h
    cases f : rl_own B.tail x with
    | none => rw [f] at h; cases h
    | some w =>
      obtain ⟨b, y⟩ := w
      rw [f] at h
      dsimp only at h
      by_cases k : y.1 = 2
      · rw [if_pos k] at h
        cases h
        right
        obtain ⟨g1, g2⟩ := rl_blkt (rl_ownb f).1
        rw [show 9 + b - 9 = b by omega]
        exact ⟨by omega, y, rfl, g1, k, g2⟩
      · rw [if_neg k] at h; cases h
theorem cr156 {d : Nat} {l : List pg_N} {NN nx : Nat} {σ0 σ : pm_S} {A : rl_A} {Q : Option Value → pm_S → Prop} {y : Nat} (hG : lg_G l NN) (h : cr_I l NN σ0 σ nx A) (hf : cb_nm A.1.tail (rl_hd A.1).2.1 = none) (hkd : ∀ q, cb_kd A.1 q < 2 ^ 30) (hB : A.1 ≠ []) (hy : y < l.length) (hk : rl_k l y = 8 ∨ rl_k l y = 9 ∨ rl_k l y = 10) (h9 : rl_k l y = 9 → y + 3 < l.length ∧ 1 ≤ rl_many l y ∧ rl_many l y ≤ 256) (h10 : rl_k l y = 10 → (rl_inst A.1 (rl_v l y)).isSome = true) (hx : rl_k l y = 10 → 0 ≤ (rl_v l y).toInt ∧ (rl_v l y).toInt < NN) (hQ : Q (some (.int (nI (rl_zz l A.1 y)))) σ) : pm_call pm_Y0 (d + 3) 156 [.ref 7, .int (nI y)] σ Q := by
  unfold rl_zz at hQ
  refine wq_m m156 (Nat.le_of_ble_eq_true rfl) (by decide) rfl ?_
  refine wq_l 1 d156_0 rfl rfl rfl rfl ?_
  refine wq_gr (ci := 7) (j := 0) (q := 3) 4 d156_1 rfl rfl rfl rfl ?_
  refine wq_l 5 d156_4 rfl rfl rfl rfl ?_
  refine wq_v 8 [_] d156_5 rfl rfl m65 rfl rfl (Nat.le_of_ble_eq_true rfl) rfl (ck65 (cr_S h) (by omega) ?_)
  refine wq_lsw [(9, 36), (10, 43)] 56 d156_8 (by decide) (List.forall_mem_cons.mpr ⟨fun e8 => ?_, List.forall_mem_cons.mpr ⟨fun e8 => ?_, fun _ h => absurd h List.not_mem_nil⟩⟩) (fun e8 => ?_)
  · -- case 9
    have e8 : rl_k l y = 9 := hp_inj (by omega) (by decide) e8
    rw [if_neg (by omega), if_pos e8] at hQ
    refine wq_l 37 d156_36 rfl rfl rfl rfl ?_
    refine wq_l 38 d156_37 rfl rfl rfl rfl ?_
    refine wq_v 41 [_] d156_38 rfl rfl m157 rfl rfl (Nat.le_of_ble_eq_true rfl) rfl (cr157 h (by have := (h9 e8).1; omega) (fun r er => ?_))
    refine wq_a 42 d156_41 rfl rfl ?_
    refine wq_ri d156_42 (rfl) ?_
    have e : r.toInt32 = nI (rl_many l y).toNat := by
      have q := (h9 e8).2
      rw [i_eq, Int64.toInt_toInt32, er, nI_toInt (by omega), Int.bmod_eq_of_le (by omega) (by omega)]
      omega
    rw [e]
    exact hQ
  · -- case 10
    have e8 : rl_k l y = 10 := hp_inj (by omega) (by decide) e8
    rw [if_neg (by omega), if_neg (by omega)] at hQ
    refine wq_l 44 d156_43 rfl rfl rfl rfl ?_
    refine wq_gr (ci := 7) (j := 2) (q := 5) 47 d156_44 rfl rfl rfl rfl ?_
    refine wq_l 48 d156_47 rfl rfl rfl rfl ?_
    refine wq_l 49 d156_48 rfl rfl rfl rfl ?_
    refine wq_v 52 [_] d156_49 rfl rfl m154 rfl rfl (Nat.le_of_ble_eq_true rfl) rfl (cr154 h hf hkd hB hy (hx e8) ?_)
    obtain ⟨q, eq⟩ := Option.isSome_iff_exists.mp (h10 e8)
    rw [eq] at hQ ⊢
    rw [hp_os]
    have hQ : Q (some (.int (nI (if q < 9 then rl_ssz q else ((rl_blk A.1 (q - 9)).getD (0, -1, 0, 0, [])).2.2.2.1)))) σ := hQ
    rcases rl_instl eq with w | ⟨w, z, z1, z2, z3, z4⟩
    · rw [if_pos w] at hQ
      refine wq_v 55 [_] d156_52 rfl rfl m118 rfl rfl (Nat.le_of_ble_eq_true rfl) rfl (cb118s h.2.2.2.2.1 w ?_)
      refine wq_ri d156_55 rfl ?_
      exact hQ
    · rw [if_neg (by omega), z2] at hQ
      rw [show q = 9 + (q - 9) by omega]
      refine wq_v 55 [_] d156_52 rfl rfl m118 rfl rfl (Nat.le_of_ble_eq_true rfl) rfl (cb118 h.2.2.2.2.1 z2 ?_)
      refine wq_ri d156_55 rfl ?_
      exact hQ
  · -- default
    have w8_9 := e8 (9, 36) (by decide)
    have w8_10 := e8 (10, 43) (by decide)
    refine wq_k 57 1 d156_56 (by decide) rfl ?_
    refine wq_ri d156_57 (rfl) ?_
    have e8k : rl_k l y = 8 := by rcases hk with w | w | w; exact w; exact absurd (by rw [w]; rfl) w8_9; exact absurd (by rw [w]; rfl) w8_10
    rw [if_pos e8k] at hQ
    exact hQ
