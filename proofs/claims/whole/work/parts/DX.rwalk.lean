/-! THE WALK of the reference: a node is left -/
theorem lg_pb {l : List pg_N} {NN i : Nat} (hG : lg_G l NN) (h0r : rl_k l 0 = 0) (hi : i < l.length) (i0 : 0 < i) (h : rl_par l i = 0) : 1 ≤ rl_k l i ∧ rl_k l i ≤ 3 := by
  have hR := lg_Rp hG hi i0
  rw [h, h0r] at hR
  exact of_decide_eq_true hR
/-- behind the rule -/
theorem re265w {d : Nat} {l : List pg_N} {a : Nat → Nat} {R : Int32 → Int32 → Prop} {σ0 : pm_S} {Q : Option Value → pm_S → Prop} {NN : Nat} {k st i nx : Nat} {A : rl_A} {σ : pm_S} {w2 : Value} (hG : lg_G l NN) (h6 : σ0.1 10 6 = 0) (hT : rs_T l a R σ0) (hP : rr_P d l a R σ0 Q k) (hst : st + (k + 1) = 2 * l.length) (hd : st + pi_d l (some i) = 2 * nx) (gG : pi_G l (some i) nx) (hn : ¬ nx < i + rl_z l i) (hQ : ∀ σ', rr_X l a R σ0 σ' (rl_run l (k + 1) (some i, nx, A)) → Q none σ') (hF : rr_F σ0 σ) (hW : i ≠ 0 → (rl_out l A i).1 = 0 → ∀ y, rr_W l a R σ0 (pm_pi (pm_pi σ 10 6 0) 10 7 y) (some (rl_par l i), nx, (rl_out l A i).2)) (h0 : i = 0 → (rl_out l A i).1 = 0 → ∃ u, rr_I l a R σ0 σ false u (rl_out l A i).2 ∧ rp_R (rl_out l A i).2 σ) : pm_WP pm_Y0 (pm_call pm_Y0 (d + 6)) 10 prog_14_method_119_code none Q 89 [.ref 10, .int (nI (a i)), w2] [.int (nI (rl_out l A i).1), .ref 10] σ := by
  obtain ⟨q1, q2, q3, q4, q5, q6⟩ := pi_out hG gG hn
  have T := rs_Tf hT hF
  have s6 := rr_6 (l := l) (a := a) (R := R) (fl := true) (u := 0) (A := A) h6 hF
  have bi := rt_b T q1
  have ep := rt_p T q1
  have fl := rl_oLa hG A i
  have G := rr_fl (x := nI (rl_out l A i).1) (y := nI (rl_x l i).2.1) hF
  have stp := rl_sto (l := l) (A := A) hn
  have T2 : rs_T l a R (pm_pi (pm_pi σ 10 6 (nI (rl_out l A i).1)) 10 7 (nI (rl_x l i).2.1)) := T
  have bad : ∀ (x y : Int32), (rl_out l A i).1 ≠ 0 → pm_WP pm_Y0 (pm_call pm_Y0 (d + 6)) 10 prog_14_method_119_code none Q 4 [.ref 10, .int x, .int y] [] (pm_pi (pm_pi σ 10 6 (nI (rl_out l A i).1)) 10 7 (nI (rl_x l i).2.1)) := fun x y f0 => by
    refine re265s (fun z => f0 (hp_inj (b := 0) (by omega) (by decide) z)) (hQ _ ?_)
    rw [rl_runs (by rw [stp]; exact f0), stp]
    exact ⟨G, fun z => absurd z f0, fun _ => ⟨rfl, rfl⟩⟩
  by_cases i0 : i = 0
  · have en : (pm_pi (pm_pi σ 10 6 (nI (rl_out l A i).1)) 10 7 (nI (rl_x l i).2.1)).2.2 54 (nI (a i)).toNatClampNeg = -1 := by
      rw [rt_c T2 q1, i0, T2.1]; exact T2.2.2.2.2
    have eq' := (rt_q T2 hG q1).trans (if_pos i0)
    refine wq_l 90 d265_89 rfl rfl rfl rfl ?_
    refine wq_gr (ci := 10) (j := 17) (q := 50) 93 d265_90 rfl rfl rfl rfl ?_
    refine wq_l 94 d265_93 rfl rfl rfl rfl ?_
    refine wq_al 95 d265_94 rfl rfl rfl (bi) ?_
    rw [ep]
    refine wq_v 98 [_, _] d265_95 rfl rfl m206 rfl rfl (Nat.le_of_ble_eq_true rfl) rfl (sp206 s6 ?_)
    refine wq_l 99 d265_98 rfl rfl rfl rfl ?_
    refine wq_gr (ci := 10) (j := 21) (q := 54) 102 d265_99 rfl rfl rfl rfl ?_
    refine wq_l 103 d265_102 rfl rfl rfl rfl ?_
    refine wq_al 104 d265_103 rfl rfl rfl (bi) ?_
    rw [en]
    refine wq_b 111 107 d265_104 rfl (by decide) rfl (fun c104 => ?_) (fun c104 => absurd (by decide) c104)
    refine wq_k 112 0 d265_111 (by decide) rfl ?_
    refine wq_s 113 d265_112 rfl rfl (Nat.le_of_ble_eq_true rfl) rfl rfl ?_
    refine wq_l 114 d265_113 rfl rfl rfl rfl ?_
    refine wq_b 126 117 d265_114 rfl (by decide) rfl (fun c114 => ?_) (fun c114 => absurd (rfl) c114)
    refine wq_l 127 d265_126 rfl rfl rfl rfl ?_
    refine wq_gr (ci := 10) (j := 22) (q := 55) 130 d265_127 rfl rfl rfl rfl ?_
    refine wq_l 131 d265_130 rfl rfl rfl rfl ?_
    refine wq_al 132 d265_131 rfl rfl rfl (bi) ?_
    rw [eq']
    refine wq_s 133 d265_132 rfl rfl (Nat.le_of_ble_eq_true rfl) rfl rfl ?_
    refine wq_g 4 d265_133 (by decide) ?_
    by_cases f0 : (rl_out l A i).1 = 0
    · refine re265e (hQ _ ?_)
      have e1 := q6 i0
      have d0 : pi_d l (some i) = 1 := by rw [i0]; rfl
      have k0 : k = 0 := by omega
      rw [k0, rl_runc (by rw [stp]; exact f0), stp, f0]
      refine ⟨by rw [f0] at G; exact G, fun _ => ⟨rfl, ?_⟩, fun z => absurd rfl z⟩
      obtain ⟨u, g1, g2⟩ := h0 i0 f0
      exact ⟨u, rr_f0 h6 g1, g2.1, g2.2⟩
    · exact bad _ _ f0
  · obtain ⟨p1, p2, p3⟩ := lg_par hG q1 (by omega)
    have hpl : rl_par l i < l.length := by omega
    have pz := (rl_zc hG.1 hpl).2
    have cm := rl_cm p2
    have iz := rl_zl hG.1 hpl cm.1 cm.2
    have en : (pm_pi (pm_pi σ 10 6 (nI (rl_out l A i).1)) 10 7 (nI (rl_x l i).2.1)).2.2 54 (nI (a i)).toNatClampNeg = _ := rt_n T2 hG hpl p2
    have eq' := (rt_q T2 hG q1).trans (if_neg i0)
    have run : (rl_out l A i).1 = 0 → rl_run l (k + 1) (some i, nx, A) = rl_run l k (some (rl_par l i), nx, (rl_out l A i).2) := fun f0 => by
      rw [rl_runc (by rw [stp]; exact f0), stp, p3]
    have go : (rl_out l A i).1 = 0 → _ := fun f0 => hP (st + 1) (some (rl_par l i)) nx (rl_out l A i).2 (pm_pi (pm_pi σ 10 6 (nI (rl_out l A i).1)) 10 7 (nI (rl_x l i).2.1)) (by omega) (by
      rw [p3] at q5
      omega) (by rw [f0]; exact hW i0 f0 _) (fun σ' x => hQ σ' (by rw [run f0]; exact x))
    by_cases w : i + rl_z l i < rl_par l i + rl_z l (rl_par l i)
    · rw [if_pos w] at en
      have ew := nI_toInt (n := a (i + rl_z l i)) (by have := (T.2.2.1 (i + rl_z l i) (by omega)).1; omega)
      refine wq_l 90 d265_89 rfl rfl rfl rfl ?_
      refine wq_gr (ci := 10) (j := 17) (q := 50) 93 d265_90 rfl rfl rfl rfl ?_
      refine wq_l 94 d265_93 rfl rfl rfl rfl ?_
      refine wq_al 95 d265_94 rfl rfl rfl (bi) ?_
      rw [ep]
      refine wq_v 98 [_, _] d265_95 rfl rfl m206 rfl rfl (Nat.le_of_ble_eq_true rfl) rfl (sp206 s6 ?_)
      refine wq_l 99 d265_98 rfl rfl rfl rfl ?_
      refine wq_gr (ci := 10) (j := 21) (q := 54) 102 d265_99 rfl rfl rfl rfl ?_
      refine wq_l 103 d265_102 rfl rfl rfl rfl ?_
      refine wq_al 104 d265_103 rfl rfl rfl (bi) ?_
      rw [en]
      refine wq_b 111 107 d265_104 rfl (by decide) rfl (fun c104 => absurd c104 (by rw [i_lt, ew]; show ¬ _ < (0 : Int); omega)) (fun c104 => ?_)
      refine wq_k 108 1 d265_107 (by decide) rfl ?_
      refine wq_g 112 d265_108 (by decide) ?_
      refine wq_s 113 d265_112 rfl rfl (Nat.le_of_ble_eq_true rfl) rfl rfl ?_
      refine wq_l 114 d265_113 rfl rfl rfl rfl ?_
      refine wq_b 126 117 d265_114 rfl (by decide) rfl (fun c114 => absurd c114 (by decide)) (fun c114 => ?_)
      refine wq_l 118 d265_117 rfl rfl rfl rfl ?_
      refine wq_gr (ci := 10) (j := 21) (q := 54) 121 d265_118 rfl rfl rfl rfl ?_
      refine wq_l 122 d265_121 rfl rfl rfl rfl ?_
      refine wq_al 123 d265_122 rfl rfl rfl (bi) ?_
      rw [en]
      refine wq_g 132 d265_123 (by decide) ?_
      refine wq_s 133 d265_132 rfl rfl (Nat.le_of_ble_eq_true rfl) rfl rfl ?_
      refine wq_g 4 d265_133 (by decide) ?_
      by_cases f0 : (rl_out l A i).1 = 0
      · have g := (go f0).1 (by show nx < rl_par l i + rl_z l (rl_par l i); omega)
        rw [q3] at g
        exact g
      · exact bad _ _ f0
    · rw [if_neg w] at en
      refine wq_l 90 d265_89 rfl rfl rfl rfl ?_
      refine wq_gr (ci := 10) (j := 17) (q := 50) 93 d265_90 rfl rfl rfl rfl ?_
      refine wq_l 94 d265_93 rfl rfl rfl rfl ?_
      refine wq_al 95 d265_94 rfl rfl rfl (bi) ?_
      rw [ep]
      refine wq_v 98 [_, _] d265_95 rfl rfl m206 rfl rfl (Nat.le_of_ble_eq_true rfl) rfl (sp206 s6 ?_)
      refine wq_l 99 d265_98 rfl rfl rfl rfl ?_
      refine wq_gr (ci := 10) (j := 21) (q := 54) 102 d265_99 rfl rfl rfl rfl ?_
      refine wq_l 103 d265_102 rfl rfl rfl rfl ?_
      refine wq_al 104 d265_103 rfl rfl rfl (bi) ?_
      rw [en]
      refine wq_b 111 107 d265_104 rfl (by decide) rfl (fun c104 => ?_) (fun c104 => absurd (by decide) c104)
      refine wq_k 112 0 d265_111 (by decide) rfl ?_
      refine wq_s 113 d265_112 rfl rfl (Nat.le_of_ble_eq_true rfl) rfl rfl ?_
      refine wq_l 114 d265_113 rfl rfl rfl rfl ?_
      refine wq_b 126 117 d265_114 rfl (by decide) rfl (fun c114 => ?_) (fun c114 => absurd (rfl) c114)
      refine wq_l 127 d265_126 rfl rfl rfl rfl ?_
      refine wq_gr (ci := 10) (j := 22) (q := 55) 130 d265_127 rfl rfl rfl rfl ?_
      refine wq_l 131 d265_130 rfl rfl rfl rfl ?_
      refine wq_al 132 d265_131 rfl rfl rfl (bi) ?_
      rw [eq']
      refine wq_s 133 d265_132 rfl rfl (Nat.le_of_ble_eq_true rfl) rfl rfl ?_
      refine wq_g 4 d265_133 (by decide) ?_
      by_cases f0 : (rl_out l A i).1 = 0
      · exact (go f0).2 (rl_par l i) rfl (by omega)
      · exact bad _ _ f0
theorem re265v {d : Nat} {l : List pg_N} {a : Nat → Nat} {R : Int32 → Int32 → Prop} {σ0 : pm_S} {Q : Option Value → pm_S → Prop} {NN : Nat} {k st i nx : Nat} {A : rl_A} {σ : pm_S} {w2 : Value} (hG : lg_G l NN) (h0r : rl_k l 0 = 0) (hC : lg_C l) (h6 : σ0.1 10 6 = 0) (hP : rr_P d l a R σ0 Q k) (hst : st + (k + 1) = 2 * l.length) (hd : st + pi_d l (some i) = 2 * nx) (hW : rr_W l a R σ0 σ (some i, nx, A)) (hn : ¬ nx < i + rl_z l i) (hQ : ∀ σ', rr_X l a R σ0 σ' (rl_run l (k + 1) (some i, nx, A)) → Q none σ') : pm_WP pm_Y0 (pm_call pm_Y0 (d + 6)) 10 prog_14_method_119_code none Q 83 [.ref 10, .int (nI (a i)), w2] [] σ := by
  obtain ⟨hI, u, g1, g0⟩ := hW
  have gG : pi_G l (some i) nx := hI.1
  obtain ⟨q1, q2, q3, q4, q5, q6⟩ := pi_out hG gG hn
  have g0 : (∀ j, some i = some j → j = 0) → rr_I l a R σ0 σ false u A := g0
  have g1 : ∀ j, some i = some j → j ≠ 0 → rr_I l a R σ0 σ true u A ∧ pe_I l u j nx A := g1
  have pa := pi_all hG h0r hC
  have pst : (rl_out l A i).1 = 0 → pi_I l ((rl_up l i).head?, nx, (rl_out l A i).2) := fun f0 => pi_Ls hG h0r hC hI hn f0
  by_cases i0 : i = 0
  · have h := g0 (fun j hj => by cases hj; exact i0)
    obtain ⟨pp, pl⟩ := (pa.2.2.1 i nx A hI hn).2 i0
    have eo : (rl_out l A 0).2 = A := by rw [rl_o0 h0r]
    subst i0
    refine wq_l 84 d265_83 rfl rfl rfl rfl ?_
    refine wq_l 85 d265_84 rfl rfl rfl rfl ?_
    refine wq_l 86 d265_85 rfl rfl rfl rfl ?_
    refine wq_v 89 [_] d265_86 rfl rfl m272 rfl rfl (Nat.le_of_ble_eq_true rfl) rfl (re272r hG h0r h pp pl (fun σ1 hF hX => ?_))
    refine re265w hG h6 h.2.1 hP hst hd gG hn hQ hF (fun z => absurd rfl z) (fun _ f0 => ?_)
    rw [eo]
    obtain ⟨x1, x2⟩ := hX f0
    exact ⟨u, x1, x2⟩
  · obtain ⟨h, hE⟩ := g1 i rfl i0
    have cx := (pa.2.2.1 i nx A hI hn).1 i0
    have ipos : 0 < i := by omega
    obtain ⟨p1, p2, p3⟩ := lg_par hG q1 ipos
    rw [p3] at pst
    have cx2 := cx.2.1
    obtain ⟨B, T⟩ := A
    cases B with
    | nil => exact absurd rfl cx2
    | cons y r =>
    by_cases hk : 1 ≤ rl_k l i ∧ rl_k l i ≤ 3
    · have p0 := lg_b0 hG q1 ipos hk
      have hy : y.2.2.1 = i := by
        obtain ⟨b1, b2, b3, b4, _⟩ := hI.2.2 i rfl
        rcases (b4 i0).2 with w | w
        · exact w
        · exfalso
          have w : y.2.2.1 ∈ rl_up l i := w
          rw [(rl_upu hG q1 ipos).1, p0, rl_up0] at w
          have w := List.mem_singleton.mp w
          have k := (b2 y (List.mem_cons_self ..)).2.1
          have k3 := b1.1.1
          rw [w, h0r] at k
          omega
      have pb : pv_B (y :: r) := cx.1
      rw [q3] at hE
      refine wq_l 84 d265_83 rfl rfl rfl rfl ?_
      refine wq_l 85 d265_84 rfl rfl rfl rfl ?_
      refine wq_l 86 d265_85 rfl rfl rfl rfl ?_
      refine wq_v 89 [_] d265_86 rfl rfl m272 rfl rfl (Nat.le_of_ble_eq_true rfl) rfl (re272b (u' := u) hG h0r h hy q1 hk pb hE (fun σ1 hF hX => ?_))
      refine re265w hG h6 h.2.1 hP hst hd gG hn hQ hF (fun _ f0 y' => ?_) (fun z => absurd z i0)
      refine ⟨pst f0, u, fun j hj j0 => ?_, fun _ => rr_f0 h6 (hX f0)⟩
      have hj : some (rl_par l i) = some j := hj
      cases hj
      exact absurd p0 j0
    · have k3 : 3 < rl_k l i := by
        have : rl_k l i ≠ 0 := fun z => i0 (lg_k0 hG q1 z)
        omega
      obtain ⟨v1, v2, v3, v4, v5, v6, v7⟩ := rr_lv hG h0r hC hI hn i0 k3 hE
      have pb : pv_B (y :: r) := cx.1
      have pn : rl_par l i ≠ 0 := fun z => hk (lg_pb hG h0r q1 ipos z)
      refine wq_l 84 d265_83 rfl rfl rfl rfl ?_
      refine wq_l 85 d265_84 rfl rfl rfl rfl ?_
      refine wq_l 86 d265_85 rfl rfl rfl rfl ?_
      refine wq_v 89 [_] d265_86 rfl rfl m272 rfl rfl (Nat.le_of_ble_eq_true rfl) rfl (re272 hG h0r h q1 k3 cx v2 v3 v4 v5 (fun σ1 hF hX => ?_))
      refine re265w hG h6 h.2.1 hP hst hd gG hn hQ hF (fun _ f0 y' => ?_) (fun z => absurd z i0)
      refine ⟨pst f0, (if rl_k l i = 5 then (rl_cur (rl_out l (y :: r, T) i).2).2.2.2.1 else u), fun j hj j0 => ?_, fun z => absurd (z (rl_par l i) rfl) pn⟩
      have hj : some (rl_par l i) = some j := hj
      cases hj
      exact ⟨rr_f0 h6 (hX f0), pe_L hG h0r q1 pb v7 v6 v1 q3 f0 hE⟩
