/-! THE WALK of the reference: a node is entered; the whole -/
theorem pi_d1 (l : List pg_N) (i : Nat) : 1 ≤ pi_d l (some i) := by
  show 1 ≤ (rl_up l i).length + 1
  omega
theorem re265d {d : Nat} {l : List pg_N} {a : Nat → Nat} {R : Int32 → Int32 → Prop} {σ0 : pm_S} {Q : Option Value → pm_S → Prop} {NN : Nat} {n st nx : Nat} {o : Option Nat} {A : rl_A} {σ : pm_S} (hG : lg_G l NN) (h0r : rl_k l 0 = 0) (hC : lg_C l) (h6 : σ0.1 10 6 = 0) (hP : ∀ k, k < n → rr_P d l a R σ0 Q k) (hst : st + n = 2 * l.length) (hd : st + pi_d l o = 2 * nx) (hW : rr_W l a R σ0 σ (o, nx, A)) (hn : nx < rl_end l o) (hQ : ∀ σ', rr_X l a R σ0 σ' (rl_run l n (o, nx, A)) → Q none σ') : pm_WP pm_Y0 (pm_call pm_Y0 (d + 6)) 10 prog_14_method_119_code none Q 4 [.ref 10, .int (nI (a nx)), .int 1] [] σ := by
  obtain ⟨hI, u, g1, g0⟩ := hW
  have gG : pi_G l o nx := hI.1
  obtain ⟨q1, q2, q3, q4⟩ := pi_in hG gG hn
  have g0 : (∀ j, o = some j → j = 0) → rr_I l a R σ0 σ false u A := g0
  have g1 : ∀ j, o = some j → j ≠ 0 → rr_I l a R σ0 σ true u A ∧ pe_I l u j nx A := g1
  have cE := (pi_all hG h0r hC).2.1 (o, nx, A) hI hn
  have dl := pi_d1 l nx
  obtain ⟨k, rfl⟩ : ∃ k, n = k + 1 := ⟨n - 1, by omega⟩
  have stp := rl_sti (l := l) (A := A) hn
  have run : (rl_in l A nx).1 = 0 → rl_run l (k + 1) (o, nx, A) = rl_run l k (some nx, nx + 1, (rl_in l A nx).2) := fun f0 => by
    rw [rl_runc (by rw [stp]; exact f0), stp]
  have nst : (rl_in l A nx).1 = 0 → pi_I l (some nx, nx + 1, (rl_in l A nx).2) := fun f0 => pi_Es hG h0r hC hI hn f0
  have kk := (lg_V hG q1).1
  have zx := rl_zc hG.1 q1
  obtain ⟨TT, FF⟩ : rs_T l a R σ0 ∧ rr_F σ0 σ := by
    cases o with
    | none => have h := g0 (fun j hj => by cases hj); exact ⟨h.2.1, h.2.2.1⟩
    | some i =>
      by_cases i0 : i = 0
      · have h := g0 (fun j hj => by cases hj; exact i0)
        exact ⟨h.2.1, h.2.2.1⟩
      · have h := (g1 i rfl i0).1
        exact ⟨h.2.1, h.2.2.1⟩
  have T := rs_Tf TT FF
  have s6 := rr_6 (l := l) (a := a) (R := R) (fl := true) (u := 0) (A := A) h6 FF
  have bi := rt_b T q1
  have ek := rt_k T q1
  have ekn := nI_toInt (n := rl_k l nx) (by omega)
  have ean := nI_toInt (n := a nx) (by have := (T.2.2.1 nx q1).1; omega)
  have ef := rt_f T hG q1
  by_cases hk : 1 ≤ rl_k l nx ∧ rl_k l nx ≤ 3
  · have o0 : o = some 0 := by
      cases o with
      | none =>
        have gG : nx = 0 ∨ nx = l.length := gG
        rcases gG with w | w
        · rw [w, h0r] at hk; omega
        · omega
      | some i =>
        have n0 : 0 < nx := by
          rcases Nat.eq_zero_or_pos nx with w | w
          · rw [w, h0r] at hk; omega
          · exact w
        have e := lg_b0 hG q1 n0 hk
        rw [(lg_par hG q1 n0).2.2, e] at q2
        exact q2.symm
    have h := g0 (fun j hj => by rw [o0] at hj; cases hj; rfl)
    obtain ⟨c1, c2, c3, c4⟩ := cE
    have c2 := c2 hk
    have hpv : pv_B A.1 := (hI.2.2 0 o0).1
    have z2 : nx + 1 < nx + rl_z l nx := by
      obtain ⟨jl, _, e2, _⟩ := lg_bl hG q1 hk
      have := rl_cm e2
      omega
    rw [if_pos z2] at ef
    have ean1 := nI_toInt (n := a (nx + 1)) (by have := (T.2.2.1 (nx + 1) (by omega)).1; omega)
    refine wq_l 5 d265_4 rfl rfl rfl rfl ?_
    refine wq_b 136 8 d265_5 rfl (by decide) rfl (fun c5 => absurd c5 (by rw [i_lt, ean]; show ¬ _ < (0 : Int); omega)) (fun c5 => ?_)
    refine wq_l 9 d265_8 rfl rfl rfl rfl ?_
    refine wq_gf (ci := 10) (j := 6) (f := 0) (v := .int (0)) 12 d265_9 rfl rfl rfl (congrArg Value.int (s6)) rfl ?_
    refine wq_b 136 15 d265_12 rfl (by decide) rfl (fun c12 => absurd c12 (fun z => z rfl)) (fun c12 => ?_)
    refine wq_l 16 d265_15 rfl rfl rfl rfl ?_
    refine wq_b 53 19 d265_16 rfl (by decide) rfl (fun c16 => absurd c16 (by decide)) (fun c16 => ?_)
    refine wq_l 20 d265_19 rfl rfl rfl rfl ?_
    refine wq_gr (ci := 10) (j := 16) (q := 49) 23 d265_20 rfl rfl rfl rfl ?_
    refine wq_l 24 d265_23 rfl rfl rfl rfl ?_
    refine wq_al 25 d265_24 rfl rfl rfl (bi) ?_
    rw [ek]
    refine wq_b 53 28 d265_25 rfl (by decide) rfl (fun c25 => absurd c25 (by rw [i_le, ekn]; show ¬ _ ≤ (0 : Int); omega)) (fun c25 => ?_)
    refine wq_l 29 d265_28 rfl rfl rfl rfl ?_
    refine wq_gr (ci := 10) (j := 16) (q := 49) 32 d265_29 rfl rfl rfl rfl ?_
    refine wq_l 33 d265_32 rfl rfl rfl rfl ?_
    refine wq_al 34 d265_33 rfl rfl rfl (bi) ?_
    rw [ek]
    refine wq_k 35 4 d265_34 (by decide) rfl ?_
    refine wq_b 53 38 d265_35 rfl (by decide) rfl (fun c35 => absurd c35 (by rw [i_le, ekn]; show ¬ (4 : Int) ≤ _; omega)) (fun c35 => ?_)
    refine wq_l 39 d265_38 rfl rfl rfl rfl ?_
    refine wq_l 40 d265_39 rfl rfl rfl rfl ?_
    refine wq_l 41 d265_40 rfl rfl rfl rfl ?_
    refine wq_v 44 [_] d265_41 rfl rfl m266 rfl rfl (Nat.le_of_ble_eq_true rfl) rfl (re266 hG h hpv c2 (fun z => by have := c3 z; have this : (cv_L A.1).length < 4128 := this; rw [rv_cv] at this; omega) q1 hk (fun σ1 hF hX => ?_))
    have T1 := rs_Tf TT hF
    have s61 := rr_6 (l := l) (a := a) (R := R) (fl := true) (u := 0) (A := A) h6 hF
    have bi1 := rt_b T1 q1
    have ep := rt_p T1 q1
    have ef1 := (rt_f T1 hG q1).trans (if_pos z2)
    refine wq_l 45 d265_44 rfl rfl rfl rfl ?_
    refine wq_gr (ci := 10) (j := 17) (q := 50) 48 d265_45 rfl rfl rfl rfl ?_
    refine wq_l 49 d265_48 rfl rfl rfl rfl ?_
    refine wq_al 50 d265_49 rfl rfl rfl (bi1) ?_
    rw [ep]
    refine wq_v 53 [_, _] d265_50 rfl rfl m206 rfl rfl (Nat.le_of_ble_eq_true rfl) rfl (sp206 s61 ?_)
    have ef2 : (pm_pi (pm_pi σ1 10 6 (nI (rl_in l A nx).1)) 10 7 (nI (rl_x l nx).2.1)).2.2 52 (nI (a nx)).toNatClampNeg = nI (a (nx + 1)) := ef1
    refine wq_l 54 d265_53 rfl rfl rfl rfl ?_
    refine wq_b 76 57 d265_54 rfl (by decide) rfl (fun c54 => absurd c54 (by decide)) (fun c54 => ?_)
    refine wq_l 58 d265_57 rfl rfl rfl rfl ?_
    refine wq_gr (ci := 10) (j := 19) (q := 52) 61 d265_58 rfl rfl rfl rfl ?_
    refine wq_l 62 d265_61 rfl rfl rfl rfl ?_
    refine wq_al 63 d265_62 rfl rfl rfl (bi1) ?_
    rw [ef2]
    refine wq_b 76 66 d265_63 rfl (by decide) rfl (fun c63 => absurd c63 (by rw [i_lt, ean1]; show ¬ _ < (0 : Int); omega)) (fun c63 => ?_)
    refine wq_l 67 d265_66 rfl rfl rfl rfl ?_
    refine wq_gr (ci := 10) (j := 19) (q := 52) 70 d265_67 rfl rfl rfl rfl ?_
    refine wq_l 71 d265_70 rfl rfl rfl rfl ?_
    refine wq_al 72 d265_71 rfl rfl rfl (bi1) ?_
    rw [ef2]
    refine wq_s 73 d265_72 rfl rfl (Nat.le_of_ble_eq_true rfl) rfl rfl ?_
    refine wq_g 4 d265_73 (by decide) ?_
    by_cases f0 : (rl_in l A nx).1 = 0
    · refine (hP k (by omega) (st + 1) (some nx) (nx + 1) (rl_in l A nx).2 _ (by omega) (by omega) ⟨nst f0, rl_u0 l nx, fun j hj j0 => ?_, fun z => ?_⟩ (fun σ' x => hQ σ' (by rw [run f0]; exact x))).1 z2
      · have hj : some nx = some j := hj
        cases hj
        refine ⟨?_, pe_Eb hG q1 hk f0⟩
        rw [f0]
        exact rr_f0 h6 (hX f0)
      · have z := z nx rfl
        rw [z, h0r] at hk
        omega
    · have fl := rl_inl l A nx
      refine re265s (fun z => f0 (hp_inj (b := 0) (by omega) (by decide) z)) (hQ _ ?_)
      rw [rl_runs (by rw [stp]; exact f0), stp]
      exact ⟨rr_fl hF, fun z => absurd z f0, fun _ => ⟨rfl, rfl⟩⟩
  · have f0 : (rl_in l A nx).1 = 0 := by
      rw [rl_in_o hk]
      by_cases w1 : rl_k l nx = 16
      · rw [if_pos w1]
      rw [if_neg w1]
      by_cases w2 : rl_k l nx = 19
      · rw [if_pos w2]
      rw [if_neg w2]
      by_cases w3 : rl_k l nx = 25 ∧ 2 ≤ (rl_v l nx).toInt
      · rw [if_pos w3]
      rw [if_neg w3]
    have hW1 : rr_W l a R σ0 σ (some nx, nx + 1, (rl_in l A nx).2) := by
      refine ⟨nst f0, u, fun j hj j0 => ?_, fun z => ?_⟩
      · have hj : some nx = some j := hj
        cases hj
        cases o with
        | none =>
          have gG : nx = 0 ∨ nx = l.length := gG
          rcases gG with w | w
          · exact absurd w j0
          · omega
        | some i =>
          obtain ⟨e1, e2, e3, e4⟩ : i < l.length ∧ i < nx ∧ nx ≤ i + rl_z l i ∧ (nx < i + rl_z l i → nx ∈ rl_c l i) := gG
          have nc := e4 hn
          have i0 : i ≠ 0 := fun z => by
            rw [z] at nc
            have hR := lg_R hG (show 0 < l.length by omega) nc
            rw [h0r] at hR
            exact hk (of_decide_eq_true hR)
          obtain ⟨h, hE⟩ := g1 i rfl i0
          obtain ⟨b1, b2, b3, b4, _⟩ := hI.2.2 i rfl
          obtain ⟨B, T'⟩ := A
          cases B with
          | nil => exact absurd rfl (b4 i0).1
          | cons y r =>
            have hb : y.2.2.1 = i ∨ y.2.2.1 ∈ rl_up l i := (b4 i0).2
            have cm := rl_cm nc
            have hin : rr_in l (y :: r) nx := by
              show y.2.2.1 ≤ nx ∧ nx < y.2.2.1 + rl_z l y.2.2.1
              rcases hb with w | w
              · rw [w]; omega
              · obtain ⟨w1, w2⟩ := rl_upm.mp w
                have yl : y.2.2.1 < l.length := by omega
                have := rl_zl hG.1 yl w1 w2
                omega
            exact ⟨rr_ein h hin hk, pe_Ee hG e1 hb e2 nc hk hE⟩
      · have z0 := z nx rfl
        have on : o = none := by
          cases o with
          | none => rfl
          | some i =>
            exfalso
            obtain ⟨e1, e2, _⟩ : i < l.length ∧ i < nx ∧ nx ≤ i + rl_z l i ∧ (nx < i + rl_z l i → nx ∈ rl_c l i) := gG
            omega
        have h := g0 (fun j hj => by rw [on] at hj; cases hj)
        have ei : (rl_in l A nx).2 = A := by
          rw [rl_in_o hk, z0, if_neg (by omega), if_neg (by omega), if_neg (by omega)]
        rw [ei]
        exact h
    have hQ1 : ∀ σ', rr_X l a R σ0 σ' (rl_run l k (some nx, nx + 1, (rl_in l A nx).2)) → Q none σ' := fun σ' x => hQ σ' (by rw [run f0]; exact x)
    by_cases z2 : nx + 1 < nx + rl_z l nx
    · rw [if_pos z2] at ef
      have ean1 := nI_toInt (n := a (nx + 1)) (by have := (T.2.2.1 (nx + 1) (by omega)).1; omega)
      have go := (hP k (by omega) (st + 1) (some nx) (nx + 1) (rl_in l A nx).2 σ (by omega) (by omega) hW1 hQ1).1 z2
      by_cases k0 : rl_k l nx = 0
      · skip
        refine wq_l 5 d265_4 rfl rfl rfl rfl ?_
        refine wq_b 136 8 d265_5 rfl (by decide) rfl (fun c5 => absurd c5 (by rw [i_lt, ean]; show ¬ _ < (0 : Int); omega)) (fun c5 => ?_)
        refine wq_l 9 d265_8 rfl rfl rfl rfl ?_
        refine wq_gf (ci := 10) (j := 6) (f := 0) (v := .int (0)) 12 d265_9 rfl rfl rfl (congrArg Value.int (s6)) rfl ?_
        refine wq_b 136 15 d265_12 rfl (by decide) rfl (fun c12 => absurd c12 (fun z => z rfl)) (fun c12 => ?_)
        refine wq_l 16 d265_15 rfl rfl rfl rfl ?_
        refine wq_b 53 19 d265_16 rfl (by decide) rfl (fun c16 => absurd c16 (by decide)) (fun c16 => ?_)
        refine wq_l 20 d265_19 rfl rfl rfl rfl ?_
        refine wq_gr (ci := 10) (j := 16) (q := 49) 23 d265_20 rfl rfl rfl rfl ?_
        refine wq_l 24 d265_23 rfl rfl rfl rfl ?_
        refine wq_al 25 d265_24 rfl rfl rfl (bi) ?_
        rw [ek]
        refine wq_b 53 28 d265_25 rfl (by decide) rfl (fun c25 => ?_) (fun c25 => absurd (by rw [i_le, ekn]; show _ ≤ (0 : Int); omega) c25)
        refine wq_l 54 d265_53 rfl rfl rfl rfl ?_
        refine wq_b 76 57 d265_54 rfl (by decide) rfl (fun c54 => absurd c54 (by decide)) (fun c54 => ?_)
        refine wq_l 58 d265_57 rfl rfl rfl rfl ?_
        refine wq_gr (ci := 10) (j := 19) (q := 52) 61 d265_58 rfl rfl rfl rfl ?_
        refine wq_l 62 d265_61 rfl rfl rfl rfl ?_
        refine wq_al 63 d265_62 rfl rfl rfl (bi) ?_
        rw [ef]
        refine wq_b 76 66 d265_63 rfl (by decide) rfl (fun c63 => absurd c63 (by rw [i_lt, ean1]; show ¬ _ < (0 : Int); omega)) (fun c63 => ?_)
        refine wq_l 67 d265_66 rfl rfl rfl rfl ?_
        refine wq_gr (ci := 10) (j := 19) (q := 52) 70 d265_67 rfl rfl rfl rfl ?_
        refine wq_l 71 d265_70 rfl rfl rfl rfl ?_
        refine wq_al 72 d265_71 rfl rfl rfl (bi) ?_
        rw [ef]
        refine wq_s 73 d265_72 rfl rfl (Nat.le_of_ble_eq_true rfl) rfl rfl ?_
        refine wq_g 4 d265_73 (by decide) ?_
        exact go
      · skip
        refine wq_l 5 d265_4 rfl rfl rfl rfl ?_
        refine wq_b 136 8 d265_5 rfl (by decide) rfl (fun c5 => absurd c5 (by rw [i_lt, ean]; show ¬ _ < (0 : Int); omega)) (fun c5 => ?_)
        refine wq_l 9 d265_8 rfl rfl rfl rfl ?_
        refine wq_gf (ci := 10) (j := 6) (f := 0) (v := .int (0)) 12 d265_9 rfl rfl rfl (congrArg Value.int (s6)) rfl ?_
        refine wq_b 136 15 d265_12 rfl (by decide) rfl (fun c12 => absurd c12 (fun z => z rfl)) (fun c12 => ?_)
        refine wq_l 16 d265_15 rfl rfl rfl rfl ?_
        refine wq_b 53 19 d265_16 rfl (by decide) rfl (fun c16 => absurd c16 (by decide)) (fun c16 => ?_)
        refine wq_l 20 d265_19 rfl rfl rfl rfl ?_
        refine wq_gr (ci := 10) (j := 16) (q := 49) 23 d265_20 rfl rfl rfl rfl ?_
        refine wq_l 24 d265_23 rfl rfl rfl rfl ?_
        refine wq_al 25 d265_24 rfl rfl rfl (bi) ?_
        rw [ek]
        refine wq_b 53 28 d265_25 rfl (by decide) rfl (fun c25 => absurd c25 (by rw [i_le, ekn]; show ¬ _ ≤ (0 : Int); omega)) (fun c25 => ?_)
        refine wq_l 29 d265_28 rfl rfl rfl rfl ?_
        refine wq_gr (ci := 10) (j := 16) (q := 49) 32 d265_29 rfl rfl rfl rfl ?_
        refine wq_l 33 d265_32 rfl rfl rfl rfl ?_
        refine wq_al 34 d265_33 rfl rfl rfl (bi) ?_
        rw [ek]
        refine wq_k 35 4 d265_34 (by decide) rfl ?_
        refine wq_b 53 38 d265_35 rfl (by decide) rfl (fun c35 => ?_) (fun c35 => absurd (by rw [i_le, ekn]; show (4 : Int) ≤ _; omega) c35)
        refine wq_l 54 d265_53 rfl rfl rfl rfl ?_
        refine wq_b 76 57 d265_54 rfl (by decide) rfl (fun c54 => absurd c54 (by decide)) (fun c54 => ?_)
        refine wq_l 58 d265_57 rfl rfl rfl rfl ?_
        refine wq_gr (ci := 10) (j := 19) (q := 52) 61 d265_58 rfl rfl rfl rfl ?_
        refine wq_l 62 d265_61 rfl rfl rfl rfl ?_
        refine wq_al 63 d265_62 rfl rfl rfl (bi) ?_
        rw [ef]
        refine wq_b 76 66 d265_63 rfl (by decide) rfl (fun c63 => absurd c63 (by rw [i_lt, ean1]; show ¬ _ < (0 : Int); omega)) (fun c63 => ?_)
        refine wq_l 67 d265_66 rfl rfl rfl rfl ?_
        refine wq_gr (ci := 10) (j := 19) (q := 52) 70 d265_67 rfl rfl rfl rfl ?_
        refine wq_l 71 d265_70 rfl rfl rfl rfl ?_
        refine wq_al 72 d265_71 rfl rfl rfl (bi) ?_
        rw [ef]
        refine wq_s 73 d265_72 rfl rfl (Nat.le_of_ble_eq_true rfl) rfl rfl ?_
        refine wq_g 4 d265_73 (by decide) ?_
        exact go
    · rw [if_neg z2] at ef
      obtain ⟨k', rfl⟩ : ∃ k', k = k' + 1 := ⟨k - 1, by omega⟩
      have go : ∀ w2 : Value, pm_WP pm_Y0 (pm_call pm_Y0 (d + 6)) 10 prog_14_method_119_code none Q 83 [.ref 10, .int (nI (a nx)), w2] [] σ := fun w2 => re265v hG h0r hC h6 (hP k' (by omega)) (st := st + 1) (by omega) (by omega) hW1 z2 hQ1
      by_cases k0 : rl_k l nx = 0
      · skip
        refine wq_l 5 d265_4 rfl rfl rfl rfl ?_
        refine wq_b 136 8 d265_5 rfl (by decide) rfl (fun c5 => absurd c5 (by rw [i_lt, ean]; show ¬ _ < (0 : Int); omega)) (fun c5 => ?_)
        refine wq_l 9 d265_8 rfl rfl rfl rfl ?_
        refine wq_gf (ci := 10) (j := 6) (f := 0) (v := .int (0)) 12 d265_9 rfl rfl rfl (congrArg Value.int (s6)) rfl ?_
        refine wq_b 136 15 d265_12 rfl (by decide) rfl (fun c12 => absurd c12 (fun z => z rfl)) (fun c12 => ?_)
        refine wq_l 16 d265_15 rfl rfl rfl rfl ?_
        refine wq_b 53 19 d265_16 rfl (by decide) rfl (fun c16 => absurd c16 (by decide)) (fun c16 => ?_)
        refine wq_l 20 d265_19 rfl rfl rfl rfl ?_
        refine wq_gr (ci := 10) (j := 16) (q := 49) 23 d265_20 rfl rfl rfl rfl ?_
        refine wq_l 24 d265_23 rfl rfl rfl rfl ?_
        refine wq_al 25 d265_24 rfl rfl rfl (bi) ?_
        rw [ek]
        refine wq_b 53 28 d265_25 rfl (by decide) rfl (fun c25 => ?_) (fun c25 => absurd (by rw [i_le, ekn]; show _ ≤ (0 : Int); omega) c25)
        refine wq_l 54 d265_53 rfl rfl rfl rfl ?_
        refine wq_b 76 57 d265_54 rfl (by decide) rfl (fun c54 => absurd c54 (by decide)) (fun c54 => ?_)
        refine wq_l 58 d265_57 rfl rfl rfl rfl ?_
        refine wq_gr (ci := 10) (j := 19) (q := 52) 61 d265_58 rfl rfl rfl rfl ?_
        refine wq_l 62 d265_61 rfl rfl rfl rfl ?_
        refine wq_al 63 d265_62 rfl rfl rfl (bi) ?_
        rw [ef]
        refine wq_b 76 66 d265_63 rfl (by decide) rfl (fun c63 => ?_) (fun c63 => absurd (by decide) c63)
        refine wq_l 77 d265_76 rfl rfl rfl rfl ?_
        refine wq_gf (ci := 10) (j := 6) (f := 0) (v := .int (0)) 80 d265_77 rfl rfl rfl (congrArg Value.int (s6)) rfl ?_
        refine wq_b 4 83 d265_80 rfl (by decide) rfl (fun c80 => absurd c80 (fun z => z rfl)) (fun c80 => ?_)
        exact go _
      · skip
        refine wq_l 5 d265_4 rfl rfl rfl rfl ?_
        refine wq_b 136 8 d265_5 rfl (by decide) rfl (fun c5 => absurd c5 (by rw [i_lt, ean]; show ¬ _ < (0 : Int); omega)) (fun c5 => ?_)
        refine wq_l 9 d265_8 rfl rfl rfl rfl ?_
        refine wq_gf (ci := 10) (j := 6) (f := 0) (v := .int (0)) 12 d265_9 rfl rfl rfl (congrArg Value.int (s6)) rfl ?_
        refine wq_b 136 15 d265_12 rfl (by decide) rfl (fun c12 => absurd c12 (fun z => z rfl)) (fun c12 => ?_)
        refine wq_l 16 d265_15 rfl rfl rfl rfl ?_
        refine wq_b 53 19 d265_16 rfl (by decide) rfl (fun c16 => absurd c16 (by decide)) (fun c16 => ?_)
        refine wq_l 20 d265_19 rfl rfl rfl rfl ?_
        refine wq_gr (ci := 10) (j := 16) (q := 49) 23 d265_20 rfl rfl rfl rfl ?_
        refine wq_l 24 d265_23 rfl rfl rfl rfl ?_
        refine wq_al 25 d265_24 rfl rfl rfl (bi) ?_
        rw [ek]
        refine wq_b 53 28 d265_25 rfl (by decide) rfl (fun c25 => absurd c25 (by rw [i_le, ekn]; show ¬ _ ≤ (0 : Int); omega)) (fun c25 => ?_)
        refine wq_l 29 d265_28 rfl rfl rfl rfl ?_
        refine wq_gr (ci := 10) (j := 16) (q := 49) 32 d265_29 rfl rfl rfl rfl ?_
        refine wq_l 33 d265_32 rfl rfl rfl rfl ?_
        refine wq_al 34 d265_33 rfl rfl rfl (bi) ?_
        rw [ek]
        refine wq_k 35 4 d265_34 (by decide) rfl ?_
        refine wq_b 53 38 d265_35 rfl (by decide) rfl (fun c35 => ?_) (fun c35 => absurd (by rw [i_le, ekn]; show (4 : Int) ≤ _; omega) c35)
        refine wq_l 54 d265_53 rfl rfl rfl rfl ?_
        refine wq_b 76 57 d265_54 rfl (by decide) rfl (fun c54 => absurd c54 (by decide)) (fun c54 => ?_)
        refine wq_l 58 d265_57 rfl rfl rfl rfl ?_
        refine wq_gr (ci := 10) (j := 19) (q := 52) 61 d265_58 rfl rfl rfl rfl ?_
        refine wq_l 62 d265_61 rfl rfl rfl rfl ?_
        refine wq_al 63 d265_62 rfl rfl rfl (bi) ?_
        rw [ef]
        refine wq_b 76 66 d265_63 rfl (by decide) rfl (fun c63 => ?_) (fun c63 => absurd (by decide) c63)
        refine wq_l 77 d265_76 rfl rfl rfl rfl ?_
        refine wq_gf (ci := 10) (j := 6) (f := 0) (v := .int (0)) 80 d265_77 rfl rfl rfl (congrArg Value.int (s6)) rfl ?_
        refine wq_b 4 83 d265_80 rfl (by decide) rfl (fun c80 => absurd c80 (fun z => z rfl)) (fun c80 => ?_)
        exact go _
theorem re265l {d : Nat} {l : List pg_N} {a : Nat → Nat} {R : Int32 → Int32 → Prop} {σ0 : pm_S} {Q : Option Value → pm_S → Prop} {NN : Nat} (hG : lg_G l NN) (h0r : rl_k l 0 = 0) (hC : lg_C l) (h6 : σ0.1 10 6 = 0) : ∀ n, rr_P d l a R σ0 Q n := by
  intro n
  induction n using Nat.strongRecOn with
  | ind n ih =>
    intro st o nx A σ hst hd hW hQ
    refine ⟨fun hn => re265d hG h0r hC h6 (fun k hk => ih k hk) hst hd hW hn hQ, fun i ho hn => ?_⟩
    subst ho
    have gG : pi_G l (some i) nx := hW.1.1
    obtain ⟨q1, q2, q3, q4, q5, q6⟩ := pi_out hG gG hn
    have dl := pi_d1 l i
    have iz := (rl_zc hG.1 q1).2
    obtain ⟨k, rfl⟩ : ∃ k, n = k + 1 := ⟨n - 1, by omega⟩
    obtain ⟨TT, FF⟩ : rs_T l a R σ0 ∧ rr_F σ0 σ := by
      obtain ⟨_, u, g1, g0⟩ := hW
      by_cases i0 : i = 0
      · have h := g0 (fun j hj => by have hj : some i = some j := hj; cases hj; exact i0)
        exact ⟨h.2.1, h.2.2.1⟩
      · have h := (g1 i rfl i0).1
        exact ⟨h.2.1, h.2.2.1⟩
    have T := rs_Tf TT FF
    have s6 := rr_6 (l := l) (a := a) (R := R) (fl := true) (u := 0) (A := A) h6 FF
    have ean := nI_toInt (n := a i) (by have := (T.2.2.1 i q1).1; omega)
    refine wq_l 5 d265_4 rfl rfl rfl rfl ?_
    refine wq_b 136 8 d265_5 rfl (by decide) rfl (fun c5 => absurd c5 (by rw [i_lt, ean]; show ¬ _ < (0 : Int); omega)) (fun c5 => ?_)
    refine wq_l 9 d265_8 rfl rfl rfl rfl ?_
    refine wq_gf (ci := 10) (j := 6) (f := 0) (v := .int (0)) 12 d265_9 rfl rfl rfl (congrArg Value.int (s6)) rfl ?_
    refine wq_b 136 15 d265_12 rfl (by decide) rfl (fun c12 => absurd c12 (fun z => z rfl)) (fun c12 => ?_)
    refine wq_l 16 d265_15 rfl rfl rfl rfl ?_
    refine wq_b 53 19 d265_16 rfl (by decide) rfl (fun c16 => ?_) (fun c16 => absurd (rfl) c16)
    refine wq_l 54 d265_53 rfl rfl rfl rfl ?_
    refine wq_b 76 57 d265_54 rfl (by decide) rfl (fun c54 => ?_) (fun c54 => absurd (rfl) c54)
    refine wq_l 77 d265_76 rfl rfl rfl rfl ?_
    refine wq_gf (ci := 10) (j := 6) (f := 0) (v := .int (0)) 80 d265_77 rfl rfl rfl (congrArg Value.int (s6)) rfl ?_
    refine wq_b 4 83 d265_80 rfl (by decide) rfl (fun c80 => absurd c80 (fun z => z rfl)) (fun c80 => ?_)
    exact re265v hG h0r hC h6 (ih k (by omega)) hst hd hW hn hQ
theorem re265 {d : Nat} {l : List pg_N} {a : Nat → Nat} {R : Int32 → Int32 → Prop} {σ0 : pm_S} {Q : Option Value → pm_S → Prop} {NN : Nat} {σ : pm_S} (hG : lg_G l NN) (h0r : rl_k l 0 = 0) (hC : lg_C l) (h6 : σ0.1 10 6 = 0) {u : Nat} (h : rr_I l a R σ0 σ false u rl_A0) (hQ : ∀ σ', rr_X l a R σ0 σ' (rl_go l) → Q none σ') : pm_call pm_Y0 (d + 7) 265 [.ref 10] σ Q := by
  have a0 : a 0 = 0 := h.2.1.1
  refine wq_m m265 (Nat.le_of_ble_eq_true rfl) (by decide) rfl ?_
  refine wq_k 1 0 d265_0 (by decide) rfl ?_
  refine wq_s 2 d265_1 rfl rfl (Nat.le_of_ble_eq_true rfl) rfl rfl ?_
  refine wq_k 3 1 d265_2 (by decide) rfl ?_
  refine wq_s 4 d265_3 rfl rfl (Nat.le_of_ble_eq_true rfl) rfl rfl ?_
  have g := (re265l (d := d) (a := a) (R := R) (Q := Q) hG h0r hC h6 (2 * l.length) 0 none 0 rl_A0 σ (by omega) rfl ⟨pi_0, u, fun j hj => (by cases hj), fun _ => h⟩ hQ).1 hG.2.2.1
  rw [a0] at g
  exact g
