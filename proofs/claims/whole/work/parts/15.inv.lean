/-! BETWEEN CALLS: the answers that change nothing -/
section IVT
variable {J : pm_S → Prop} {d : Nat} {σ : pm_S}
theorem st_count {x : Int32} (h : iv_Inv J σ) : iv_Step J (d + 2) 6 314 [.int x] σ := by
  have h0 := h
  obtain ⟨-, ⟨k, nb, hk, hnb, r1, r2, r3, r4, r5, r6, r7, r8, r9, r10, r11⟩, -⟩ := h0
  have key : ∀ v w : Int32, v = w → some (Value.int w) = some (Value.int v) ∧ iv_Inv J σ := fun v w e => ⟨by rw [e], h⟩
  refine sp6 (fun e => ?_) (fun e => ?_) (fun e => ?_) (fun e => ?_) (fun e => ?_) (fun a0 a1 a2 a3 a4 => ?_)
  · subst e
    exact ⟨_, rfl, sp314 (fun _ => key _ _ r1) (fun e => absurd e (by decide)) (fun e => absurd e (by decide)) (fun e => absurd e (by decide)) (fun e => absurd e (by decide)) (fun e => absurd e (by decide)) (fun e => absurd e (by decide)) (fun e => absurd rfl e)⟩
  · subst e
    exact ⟨_, rfl, sp314 (fun e => absurd e (by decide)) (fun _ => key _ _ r2) (fun e => absurd e (by decide)) (fun e => absurd e (by decide)) (fun e => absurd e (by decide)) (fun e => absurd e (by decide)) (fun e => absurd e (by decide)) (fun _ e => absurd rfl e)⟩
  · subst e
    exact ⟨_, rfl, sp314 (fun e => absurd e (by decide)) (fun e => absurd e (by decide)) (fun _ => key _ _ (by rw [r3, r4])) (fun e => absurd e (by decide)) (fun e => absurd e (by decide)) (fun e => absurd e (by decide)) (fun e => absurd e (by decide)) (fun _ _ e => absurd rfl e)⟩
  · subst e
    refine ⟨_, rfl, sp314 (fun e => absurd e (by decide)) (fun e => absurd e (by decide)) (fun e => absurd e (by decide)) (fun _ q => key _ _ ?_) (fun _ q => key _ _ ?_) (fun e => absurd e (by decide)) (fun e => absurd e (by decide)) (fun _ _ _ e => absurd rfl e)⟩
    · rcases r11 with ⟨z1, -⟩ | ⟨-, z2, -⟩
      · exact absurd z1 q
      · rw [r9, z2]
    · rcases r11 with ⟨-, z2, -⟩ | ⟨z1, -⟩
      · rw [r9, z2]; rfl
      · exact absurd q z1
  · subst e
    refine ⟨_, rfl, sp314 (fun e => absurd e (by decide)) (fun e => absurd e (by decide)) (fun e => absurd e (by decide)) (fun e => absurd e (by decide)) (fun e => absurd e (by decide)) (fun _ q => key _ _ ?_) (fun _ q => key _ _ ?_) (fun _ _ _ _ e => absurd rfl e)⟩
    · rcases r11 with ⟨z1, -⟩ | ⟨-, -, z2, -⟩
      · exact absurd z1 q
      · exact z2
    · rcases r11 with ⟨-, -, z2⟩ | ⟨z1, -⟩
      · exact z2
      · exact absurd q z1
  · exact ⟨_, rfl, sp314 (fun e => absurd e a0) (fun e => absurd e a1) (fun e => absurd e a2) (fun e => absurd e a3) (fun e => absurd e a3) (fun e => absurd e a4) (fun e => absurd e a4) (fun _ _ _ _ _ => key _ _ rfl)⟩
theorem st_kind {x : Int32} (h : iv_Inv J σ) : iv_Step J (d + 2) 7 315 [.int x] σ := by
  have h0 := h
  obtain ⟨-, ⟨k, nb, hk, hnb, r1, r2, r3, r4, r5, r6, r7, r8, r9, r10, r11⟩, -⟩ := h0
  have key : ∀ v w : Int32, v = w → some (Value.int w) = some (Value.int v) ∧ iv_Inv J σ := fun v w e => ⟨by rw [e], h⟩
  have hc : σ.1 10 54 ≤ 20000 := by rw [r4]; exact nI_le (b := 20000) (by omega) (by decide)
  have hi : ∀ y : Int32, 0 ≤ y → y < σ.1 10 54 → ∃ i, i < k ∧ y.toNatClampNeg = i := by
    intro y y0 y1
    rw [r4] at y1
    obtain ⟨i, i1, i2⟩ := nI_of (Int32.not_lt.mpr y0)
    subst i2
    exact ⟨i, (nI_ltI i1 (by omega)).mp y1, nI_clamp i1⟩
  have ho : 0 ≤ x → x < σ.1 10 54 → vp_in (σ.2.2 75 x.toNatClampNeg) 20000 := by
    intro y0 y1
    obtain ⟨i, i1, i2⟩ := hi x y0 y1
    obtain ⟨q, q1, q2, -⟩ := r10 i i1
    rw [i2, q2]
    exact vp_in_nI q1 (by decide)
  refine sp7 r6 (fun a1 a2 a3 => ?_) (fun a => ?_)
  · rw [r3, ← r4] at a3
    refine ⟨_, rfl, sp315 hc ho (fun b1 b2 => ?_) (fun b => absurd ⟨a1, a3⟩ b)⟩
    obtain ⟨i, i1, i2⟩ := hi x a1 a3
    obtain ⟨q, q1, q2, q3, q4, q5, q6⟩ := r10 i i1
    refine key _ _ ?_
    rw [i2, q2, nI_clamp (by omega)]
    exact q3
  · refine ⟨_, rfl, sp315 hc ho (fun b1 b2 => ?_) (fun b => key _ _ rfl)⟩
    refine absurd ⟨b1, ?_, by rw [r3, ← r4]; exact b2⟩ a
    obtain ⟨i, i1, i2⟩ := hi x b1 b2
    rw [r5 (by omega), ← r4]
    exact b2
theorem st_type {x : Int32} (h : iv_Inv J σ) : iv_Step J (d + 2) 8 317 [.int x] σ := by
  have h0 := h
  obtain ⟨-, ⟨k, nb, hk, hnb, r1, r2, r3, r4, r5, r6, r7, r8, r9, r10, r11⟩, -⟩ := h0
  have key : ∀ v w : Int32, v = w → some (Value.int w) = some (Value.int v) ∧ iv_Inv J σ := fun v w e => ⟨by rw [e], h⟩
  have hc : σ.1 10 54 ≤ 20000 := by rw [r4]; exact nI_le (b := 20000) (by omega) (by decide)
  have hi : ∀ y : Int32, 0 ≤ y → y < σ.1 10 54 → ∃ i, i < k ∧ y.toNatClampNeg = i := by
    intro y y0 y1
    rw [r4] at y1
    obtain ⟨i, i1, i2⟩ := nI_of (Int32.not_lt.mpr y0)
    subst i2
    exact ⟨i, (nI_ltI i1 (by omega)).mp y1, nI_clamp i1⟩
  have ho : 0 ≤ x → x < σ.1 10 54 → vp_in (σ.2.2 75 x.toNatClampNeg) 20000 := by
    intro y0 y1
    obtain ⟨i, i1, i2⟩ := hi x y0 y1
    obtain ⟨q, q1, q2, -⟩ := r10 i i1
    rw [i2, q2]
    exact vp_in_nI q1 (by decide)
  refine sp8 r6 (fun a1 a2 a3 => ?_) (fun a => ?_)
  · rw [r3, ← r4] at a3
    refine ⟨_, rfl, sp317 hc ho (fun b1 b2 => ?_) (fun b => absurd ⟨a1, a3⟩ b)⟩
    obtain ⟨i, i1, i2⟩ := hi x a1 a3
    obtain ⟨q, q1, q2, q3, q4, q5, q6⟩ := r10 i i1
    refine key _ _ ?_
    rw [i2, q2, nI_clamp (by omega)]
    exact q4
  · refine ⟨_, rfl, sp317 hc ho (fun b1 b2 => ?_) (fun b => key _ _ rfl)⟩
    refine absurd ⟨b1, ?_, by rw [r3, ← r4]; exact b2⟩ a
    obtain ⟨i, i1, i2⟩ := hi x b1 b2
    rw [r5 (by omega), ← r4]
    exact b2
theorem st_cell {x : Int32} (h : iv_Inv J σ) : iv_Step J (d + 2) 9 318 [.int x] σ := by
  have h0 := h
  obtain ⟨-, ⟨k, nb, hk, hnb, r1, r2, r3, r4, r5, r6, r7, r8, r9, r10, r11⟩, -⟩ := h0
  have key : ∀ v w : Int32, v = w → some (Value.int w) = some (Value.int v) ∧ iv_Inv J σ := fun v w e => ⟨by rw [e], h⟩
  have hc : σ.1 10 54 ≤ 20000 := by rw [r4]; exact nI_le (b := 20000) (by omega) (by decide)
  have hi : ∀ y : Int32, 0 ≤ y → y < σ.1 10 54 → ∃ i, i < k ∧ y.toNatClampNeg = i := by
    intro y y0 y1
    rw [r4] at y1
    obtain ⟨i, i1, i2⟩ := nI_of (Int32.not_lt.mpr y0)
    subst i2
    exact ⟨i, (nI_ltI i1 (by omega)).mp y1, nI_clamp i1⟩
  have ho : 0 ≤ x → x < σ.1 10 54 → vp_in (σ.2.2 75 x.toNatClampNeg) 20000 := by
    intro y0 y1
    obtain ⟨i, i1, i2⟩ := hi x y0 y1
    obtain ⟨q, q1, q2, -⟩ := r10 i i1
    rw [i2, q2]
    exact vp_in_nI q1 (by decide)
  refine sp9 r6 (fun a1 a2 a3 => ?_) (fun a => ?_)
  · rw [r3, ← r4] at a3
    refine ⟨_, rfl, sp318 hc ho (fun b1 b2 => ?_) (fun b => absurd ⟨a1, a3⟩ b)⟩
    obtain ⟨i, i1, i2⟩ := hi x a1 a3
    obtain ⟨q, q1, q2, q3, q4, q5, q6⟩ := r10 i i1
    refine key _ _ ?_
    rw [i2, q2, nI_clamp (by omega)]
    exact q5
  · refine ⟨_, rfl, sp318 hc ho (fun b1 b2 => ?_) (fun b => key _ _ rfl)⟩
    refine absurd ⟨b1, ?_, by rw [r3, ← r4]; exact b2⟩ a
    obtain ⟨i, i1, i2⟩ := hi x b1 b2
    rw [r5 (by omega), ← r4]
    exact b2
theorem st_meaning {x : Int32} (h : iv_Inv J σ) : iv_Step J (d + 2) 10 319 [.int x] σ := by
  have h0 := h
  obtain ⟨-, ⟨k, nb, hk, hnb, r1, r2, r3, r4, r5, r6, r7, r8, r9, r10, r11⟩, -⟩ := h0
  have key : ∀ v w : Int32, v = w → some (Value.int w) = some (Value.int v) ∧ iv_Inv J σ := fun v w e => ⟨by rw [e], h⟩
  have hc : σ.1 10 54 ≤ 20000 := by rw [r4]; exact nI_le (b := 20000) (by omega) (by decide)
  have hi : ∀ y : Int32, 0 ≤ y → y < σ.1 10 54 → ∃ i, i < k ∧ y.toNatClampNeg = i := by
    intro y y0 y1
    rw [r4] at y1
    obtain ⟨i, i1, i2⟩ := nI_of (Int32.not_lt.mpr y0)
    subst i2
    exact ⟨i, (nI_ltI i1 (by omega)).mp y1, nI_clamp i1⟩
  have ho : 0 ≤ x → x < σ.1 10 54 → vp_in (σ.2.2 75 x.toNatClampNeg) 20000 := by
    intro y0 y1
    obtain ⟨i, i1, i2⟩ := hi x y0 y1
    obtain ⟨q, q1, q2, -⟩ := r10 i i1
    rw [i2, q2]
    exact vp_in_nI q1 (by decide)
  refine sp10 r6 (fun a1 a2 a3 => ?_) (fun a => ?_)
  · rw [r3, ← r4] at a3
    refine ⟨_, rfl, sp319 hc ho (fun b1 b2 => ?_) (fun b => absurd ⟨a1, a3⟩ b)⟩
    obtain ⟨i, i1, i2⟩ := hi x a1 a3
    obtain ⟨q, q1, q2, q3, q4, q5, q6⟩ := r10 i i1
    refine key _ _ ?_
    rw [i2, q2, nI_clamp (by omega)]
    exact q6
  · refine ⟨_, rfl, sp319 hc ho (fun b1 b2 => ?_) (fun b => key _ _ rfl)⟩
    refine absurd ⟨b1, ?_, by rw [r3, ← r4]; exact b2⟩ a
    obtain ⟨i, i1, i2⟩ := hi x b1 b2
    rw [r5 (by omega), ← r4]
    exact b2
theorem st_frame {x : Int32} (h : iv_Inv J σ) : iv_Step J (d + 2) 11 320 [.int x] σ := by
  have h0 := h
  obtain ⟨-, ⟨k, nb, hk, hnb, r1, r2, r3, r4, r5, r6, r7, r8, r9, r10, r11⟩, -⟩ := h0
  have key : ∀ v w : Int32, v = w → some (Value.int w) = some (Value.int v) ∧ iv_Inv J σ := fun v w e => ⟨by rw [e], h⟩
  have hi : 0 ≤ x → x < nI nb → ∃ i, i < nb ∧ x = nI i := by
    intro y0 y1
    obtain ⟨i, i1, i2⟩ := nI_of (Int32.not_lt.mpr y0)
    subst i2
    exact ⟨i, (nI_ltI i1 (by omega)).mp y1, rfl⟩
  refine sp11 r7 (fun a1 a2 a3 a4 => ?_) (fun a => ?_)
  · rw [r9] at a2
    obtain ⟨i, i1, rfl⟩ := hi a1 a2
    rcases r11 with ⟨-, z2, -⟩ | ⟨z1, z2, z3, z4, z5⟩
    · omega
    · refine ⟨_, rfl, sp320 r8 (fun b0 b1 b2 => ?_) (fun b => absurd ⟨z1, a1, ?_⟩ b)⟩
      · refine key _ _ ?_
        rw [show (9 : Int32) = nI 9 from rfl, nI_add, nI_clamp (by omega), nI_clamp (by omega)]
        exact (z5 i i1).1
      · show nI i < σ.1 10 35
        rw [z2]; exact a2
  · refine ⟨_, rfl, sp320 r8 (fun b0 b1 b2 => ?_) (fun b => key _ _ rfl)⟩
    rcases r11 with ⟨z1, -⟩ | ⟨z1, z2, z3, z4, z5⟩
    · exact absurd z1 b0
    · have b2 : x < σ.1 10 35 := b2
      rw [z2] at b2
      obtain ⟨i, i1, rfl⟩ := hi b1 b2
      refine absurd ⟨b1, by rw [r9]; exact b2, ?_, ?_⟩ a
      · rw [show (9 : Int32) = nI 9 from rfl, nI_add]; exact nI_pos' (by omega)
      · rw [z4, show (9 : Int32) = nI 9 from rfl, nI_add]; exact nI_lt (by omega) (by omega)
theorem st_place {x : Int32} (h : iv_Inv J σ) : iv_Step J (d + 2) 12 321 [.int x] σ := by
  have h0 := h
  obtain ⟨-, ⟨k, nb, hk, hnb, r1, r2, r3, r4, r5, r6, r7, r8, r9, r10, r11⟩, -⟩ := h0
  have key : ∀ v w : Int32, v = w → some (Value.int w) = some (Value.int v) ∧ iv_Inv J σ := fun v w e => ⟨by rw [e], h⟩
  have hi : 0 ≤ x → x < nI nb → ∃ i, i < nb ∧ x = nI i := by
    intro y0 y1
    obtain ⟨i, i1, i2⟩ := nI_of (Int32.not_lt.mpr y0)
    subst i2
    exact ⟨i, (nI_ltI i1 (by omega)).mp y1, rfl⟩
  refine sp12 r7 (fun a1 a2 a3 a4 => ?_) (fun a => ?_)
  · rw [r9] at a2
    obtain ⟨i, i1, rfl⟩ := hi a1 a2
    rcases r11 with ⟨-, z2, -⟩ | ⟨z1, z2, z3, z4, z5⟩
    · omega
    · refine ⟨_, rfl, sp321 r8 (fun b0 b1 b2 => ?_) (fun b => absurd ⟨z1, a1, ?_⟩ b)⟩
      · refine key _ _ ?_
        rw [show (9 : Int32) = nI 9 from rfl, nI_add, nI_clamp (by omega), nI_clamp (by omega)]
        exact (z5 i i1).2
      · show nI i < σ.1 10 35
        rw [z2]; exact a2
  · refine ⟨_, rfl, sp321 r8 (fun b0 b1 b2 => ?_) (fun b => key _ _ rfl)⟩
    rcases r11 with ⟨z1, -⟩ | ⟨z1, z2, z3, z4, z5⟩
    · exact absurd z1 b0
    · have b2 : x < σ.1 10 35 := b2
      rw [z2] at b2
      obtain ⟨i, i1, rfl⟩ := hi b1 b2
      refine absurd ⟨b1, by rw [r9]; exact b2, ?_, ?_⟩ a
      · rw [show (9 : Int32) = nI 9 from rfl, nI_add]; exact nI_pos' (by omega)
      · rw [z4, show (9 : Int32) = nI 9 from rfl, nI_add]; exact nI_lt (by omega) (by omega)
end IVT
