/-! the interface holds, and statements -/
theorem xs_no {T : pg_T} {c : pg_C} {a : Nat} {ks : List Nat} (h : pg_any T ks c = true) (hk : ks.contains a = false) (q : pg_is T a c = true) : False := by
  have := xs_any h hk
  rw [q] at this
  cases this
theorem xs_ai {T : pg_T} {c : pg_C} {k : Nat} {ks : List Nat} (h : pg_is T k c = true) (hk : ks.contains k = true) : pg_any T ks c = true := by
  unfold pg_any
  rw [pg_isk h]
  exact hk
theorem xs_II {d : Nat} {Q : Option Value → pm_S → Prop} {t : Nat → Nat} {M n body ek : Nat} (hN : rp_n t M n) (he : xs_ok ek) : xs_I t M n body (xs_W d Q body ek) := by
  refine ⟨⟨?_, ?_, ?_, ?_⟩, ?_, ?_, ?_, ?_, ?_⟩
  · intro σ c h s k b L ha B A
    have hbg : pg_any (pt_T t M n) xs_bg c = true := by
      have h2 := ha
      unfold pg_any at h2 ⊢
      simp at h2 ⊢
      omega
    exact xs240L (B := B) hN he L hbg (fun _ => A) (fun q => (xs_no ha (by decide) q).elim) (fun q => (xs_no ha (by decide) q).elim) (fun q => (xs_no ha (by decide) q).elim)
  · intro σ c h s k b L q A
    exact xs240L (B := pg_nil) hN he L (xs_ai q (by decide)) (fun ha => (xs_no ha (by decide) q).elim) (fun _ => A) (fun q2 => (xs_no (xs_ai (ks := [16]) q (by decide)) (by decide) q2).elim) (fun q2 => (xs_no (xs_ai (ks := [16]) q (by decide)) (by decide) q2).elim)
  · intro σ c h s k b L q A
    exact xs240L (B := pg_nil) hN he L (xs_ai q (by decide)) (fun ha => (xs_no ha (by decide) q).elim) (fun q2 => (xs_no (xs_ai (ks := [21]) q (by decide)) (by decide) q2).elim) (fun _ => A) (fun q2 => (xs_no (xs_ai (ks := [21]) q (by decide)) (by decide) q2).elim)
  · intro σ c h s k b L q A
    exact xs240L (B := pg_nil) hN he L (xs_ai q (by decide)) (fun ha => (xs_no ha (by decide) q).elim) (fun q2 => (xs_no (xs_ai (ks := [23]) q (by decide)) (by decide) q2).elim) (fun q2 => (xs_no (xs_ai (ks := [23]) q (by decide)) (by decide) q2).elim) (fun _ => A)
  · intro σ c h s k nd G q A
    exact xs240G hN G (fun _ _ => A) (fun _ q2 => (xs_no (xs_ai (ks := [18]) q (by decide)) (by decide) q2).elim) (fun e a q2 => (xs_no (xs_ai (ks := [18]) q (by decide)) (by unfold xs_ew at a; have this : e = 20 := (by omega); rw [this]; decide) q2).elim) (fun a => (a ⟨rfl, q⟩).elim) (fun a => by omega)
  · intro σ c h s k w nd G hw q A
    exact xs240G hN G (fun _ q2 => (xs_no (xs_ai (ks := [19]) q (by decide)) (by decide) q2).elim) (fun _ _ => A) (fun e a q2 => (xs_no (xs_ai (ks := [19]) q (by decide)) (by unfold xs_ew at a; rcases a with a | a | a <;> rw [a.2] <;> decide) q2).elim) (fun _ a => (a ⟨hw, q⟩).elim) (fun _ q2 => (xs_no q2 (by decide) q).elim)
  · intro σ c h s k w nd e G ew q A
    have hx : ∀ ks : List Nat, ks.contains 20 = false → ks.contains 22 = false → ks.contains 27 = false → pg_any (pt_T t M n) ks c = true → False := fun ks k1 k2 k3 ha => by
      unfold xs_ew at ew
      rcases ew with a | a | a
      · exact xs_no ha k1 (a.2 ▸ q)
      · exact xs_no ha k2 (a.2 ▸ q)
      · exact xs_no ha k3 (a.2 ▸ q)
    refine xs240G hN G (fun _ q2 => (hx [18] (by decide) (by decide) (by decide) (xs_ai q2 (by decide))).elim) (fun _ q2 => (hx [19] (by decide) (by decide) (by decide) (xs_ai q2 (by decide))).elim) (fun e' a q2 => ?_) (fun _ _ _ a => by rw [a e ew] at q; cases q) (fun _ q2 => (hx _ (by decide) (by decide) (by decide) q2).elim)
    have ee : e' = e := by unfold xs_ew at a ew; omega
    subst ee
    exact A
  · intro σ c h s k w nd G b1 b2 b3 b4 A
    exact xs240G hN G (fun a q => (b1 ⟨a, q⟩).elim) (fun a q => (b2 ⟨a, q⟩).elim) (fun e a q => by rw [b4 e a] at q; cases q) (fun _ _ _ _ => A) (fun a q => (b3 ⟨a, q⟩).elim)
  · intro σ c h s k w nd G hw q A
    exact xs240G hN G (fun a => by omega) (fun _ q2 => (xs_no q (by decide) q2).elim) (fun e a q2 => (xs_no q (by unfold xs_ew at a; rcases a with a | a | a <;> rw [a.2] <;> decide) q2).elim) (fun _ _ a => (a ⟨hw, q⟩).elim) (fun _ _ => A)
def xs_fe (T : pg_T) (e : Nat) (c : pg_C) : pg_C := if pg_is T e c = true then c else pg_stop c
theorem xs_fex {T : pg_T} {e : Nat} {c : pg_C} (he : e ≠ 46) : pg_exp T e (xs_fe T e c) = pg_exp T e c := by
  unfold xs_fe
  by_cases q : pg_is T e c = true
  · rw [if_pos q]
  · rw [if_neg q]
    have q' : pg_is T e c = false := by simpa using q
    rw [xs_ef q']
    have hs : (pg_stop c).2.1 ≠ 0 := by unfold pg_stop; dsimp only; split <;> omega
    unfold pg_exp
    rw [if_neg (by unfold pg_k; rw [if_neg hs]; omega)]
    unfold pg_stop at hs ⊢
    dsimp only at hs ⊢
    rw [if_neg hs]
theorem rp240 {d : Nat} {Q : Option Value → pm_S → Prop} {t : Nat → Nat} {M n : Nat} {σ : pm_S} {h : rp_H} {c : pg_C} {s : Nat} {body ek : Nat} (hN : rp_n t M n) (he : xs_ok ek) (hs : s ≤ 2000) (hb : body < h.1) (hc1 : 1 ≤ c.1) (hS : rp_S t M n σ c h s) (hQ : ∀ σ' h', rp_S t M n σ' (xs_fe (pt_T t M n) ek (pg_B (pt_T t M n) 100 c).1) h' (s + 8) → rp_Ew t M n σ h σ' h' body (pg_B (pt_T t M n) 100 c).2 → Q none σ') : pm_call pm_Y0 (d + 18) 240 [.ref 10, .int (nI body), .int (rx_c ek)] σ Q := by
  have hS1 := xs_Sq (xs_qi (x := 0)) hS
  have W : xs_W d Q body ek (pm_pi σ 10 34 0) := by
    refine xs_B hN (xs_II hN he) 100 (pm_pi σ 10 34 0) c h s 0 body hs (rp_t0 hS1) (fun z => ⟨⟨rfl, Or.inl ⟨rfl, rfl⟩⟩, hb, Nat.zero_le _, by omega, hc1⟩) (fun σ' h' a1 a2 a3 => ?_)
    have a4 := rp_Ewt hb (xs_Eq (h := h) (to := body) (xs_qi (σ := σ) (x := 0))) a2
    rw [List.nil_append] at a4
    generalize pg_B (pt_T t M n) 100 c = r at *
    by_cases z : σ'.1 10 6 = 0
    · obtain ⟨b1, b2, b3⟩ := a3 z
      have te := xs_te hN he a1.1 z
      cases q : pg_is (pt_T t M n) ek r.1 with
      | true =>
        refine xs240X (Or.inr ⟨b2, te.mpr q⟩) (hQ σ' h' ?_ a4)
        unfold xs_fe
        rw [if_pos q]
        exact a1.1
      | false =>
        refine xs240R hN he a1.1 z b2 b3 q (fun σ2 h2 k2 => ?_)
        have a5 := rp_Ewt hb a4 (rp_Eww (rp_Ek k2))
        rw [List.append_nil] at a5
        refine xs240X (Or.inl (rp_d0 h2 pg_stopd)) (hQ σ2 h' ?_ a5)
        unfold xs_fe
        rw [if_neg (by rw [q]; decide)]
        exact h2
    · have dd := rp_dd a1.1 z
      refine xs240X (Or.inl z) (hQ σ' h' ?_ a4)
      unfold xs_fe
      rw [if_neg (by rw [pg_gis (pt_T t M n) (k := ek) (by unfold xs_ok at he; omega) _ dd]; decide)]
      exact rp_Sd a1.1 dd (pg_fstop _ _ dd) (Nat.le_refl _)
  refine wq_m m240 (Nat.le_of_ble_eq_true rfl) (by decide) rfl ?_
  refine wq_l 1 d240_0 rfl rfl rfl rfl ?_
  refine wq_k 2 0 d240_1 (by decide) rfl ?_
  refine wq_pf (ci := 10) (j := 34) 5 d240_2 rfl rfl rfl ⟨rfl, rfl⟩ rfl ?_
  exact W _ _
