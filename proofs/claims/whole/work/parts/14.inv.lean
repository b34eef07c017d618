/-! WHAT HOLDS BETWEEN CALLS: the same text, the same answers; J: what judge needs of its own rows -/
theorem tx_bm {k : Nat} (hk : k + 8 ≤ 32) (x : Int32) : ((x.toUInt32 >>> ((nI k).toUInt32 &&& Int32.toUInt32 31)).toInt32 &&& 255) = (x >>> (nI k &&& 31)) &&& 255 := by
  apply b_ext
  intro i hi
  rw [b_and, b_and, b_255, b_ushr k (by omega), b_sshr k (by omega) x hi]
  by_cases h : i < 8
  · rw [if_pos (by omega)]
  · simp [h]
theorem tx_be (x : Int32) {k : Nat} (hk : k + 8 ≤ 32) : tx_b x (nI k) = tx_m x (nI k) ∧ ∃ b, b < 256 ∧ tx_m x (nI k) = nI b := by
  obtain ⟨j, hj, e⟩ := pk_andE (x >>> (nI k &&& 31)) (m := 255) 8 rfl
  have hj : j < 256 := hj
  refine ⟨?_, j, hj, e⟩
  unfold tx_b tx_m
  rw [tx_bm hk, e]
  show vp_nar .char _ = _
  rw [pk_vc, pk_char, pk_tn (by omega), Nat.mod_eq_of_lt (by omega)]
theorem tx_4e {f : Nat → Int32} {n : Nat} {x : Int32} : tx_4 tx_b f n x = tx_4 tx_m f n x := by
  unfold tx_4
  rw [show (24 : Int32) = nI 24 from rfl, show (16 : Int32) = nI 16 from rfl, show (8 : Int32) = nI 8 from rfl, show (0 : Int32) = nI 0 from rfl, (tx_be x (k := 24) (by omega)).1, (tx_be x (k := 16) (by omega)).1, (tx_be x (k := 8) (by omega)).1, (tx_be x (k := 0) (by omega)).1]
theorem tx_20e {f : Nat → Int32} {n : Nat} {x1 x2 x3 x4 x5 : Int32} : tx_20 tx_b f n x1 x2 x3 x4 x5 = tx_20 tx_m f n x1 x2 x3 x4 x5 := by
  unfold tx_20
  simp only [tx_4e]
def tx_By (f : Nat → Int32) : Prop := ∀ i, ∃ b, b < 256 ∧ f i = nI b
theorem tx_By.upd {f : Nat → Int32} (h : tx_By f) {k : Nat} {x : Int32} (hx : ∃ b, b < 256 ∧ x = nI b) : tx_By (upd f k x) := by
  intro i
  by_cases e : i = k
  · subst e; rw [pk_us]; exact hx
  · rw [pk_un e]; exact h i
theorem tx_By4 {f : Nat → Int32} (h : tx_By f) {n : Nat} {x : Int32} : tx_By (tx_4 tx_m f n x) := (((h.upd (tx_be x (k := 24) (by omega)).2).upd (tx_be x (k := 16) (by omega)).2).upd (tx_be x (k := 8) (by omega)).2).upd (tx_be x (k := 0) (by omega)).2
theorem tx_By20 {f : Nat → Int32} (h : tx_By f) {n : Nat} {x1 x2 x3 x4 x5 : Int32} : tx_By (tx_20 tx_m f n x1 x2 x3 x4 x5) := tx_By4 (tx_By4 (tx_By4 (tx_By4 (tx_By4 h))))
def iv_T (σ : pm_S) : Prop := ∃ n, n ≤ 8192 ∧ σ.1 0 6 = nI n ∧ σ.1 10 1 = nI n ∧ σ.2.2 11 = σ.2.2 43 ∧ tx_By (σ.2.2 43)
def iv_R (σ : pm_S) : Prop := ∃ k nb : Nat, k ≤ 16386 ∧ nb ≤ 409 ∧ σ.1 0 7 = σ.1 10 51 ∧ σ.1 0 8 = σ.1 10 52 ∧ σ.1 0 9 = nI k ∧ σ.1 10 54 = nI k ∧ (0 < k → σ.1 3 8 = nI k) ∧ σ.1 3 8 ≤ 16386 ∧ σ.1 5 8 ≤ 418 ∧ σ.1 10 35 ≤ 800 ∧ σ.1 0 10 = nI nb ∧ (∀ i, i < k → ∃ q, q < 20000 ∧ σ.2.2 75 i = nI q ∧ σ.2.2 19 i = σ.2.2 49 q ∧ σ.2.2 24 i = σ.2.2 56 q ∧ σ.2.2 25 i = σ.2.2 57 q ∧ σ.2.2 26 i = σ.2.2 58 q) ∧ ((σ.1 10 50 = 0 ∧ nb = 0 ∧ σ.1 0 11 = 0) ∨ (¬ σ.1 10 50 = 0 ∧ σ.1 10 35 = nI nb ∧ σ.1 0 11 = σ.1 10 49 ∧ σ.1 5 8 = nI (nb + 9) ∧ ∀ b, b < nb → σ.2.2 29 (b + 9) = σ.2.2 67 b ∧ σ.2.2 30 (b + 9) = σ.2.2 68 b))
def iv_Inv (J : pm_S → Prop) (σ : pm_S) : Prop := iv_T σ ∧ iv_R σ ∧ J σ
/-- but for text and length, the same -/
def iv_same (σ τ : pm_S) : Prop := (∀ a b, (a = 0 ∧ b = 6) ∨ (a = 10 ∧ b = 1) ∨ τ.1 a b = σ.1 a b) ∧ τ.2.1 = σ.2.1 ∧ ∀ a, a = 11 ∨ a = 43 ∨ τ.2.2 a = σ.2.2 a
theorem iv_same.i {σ τ : pm_S} (h : iv_same σ τ) (a b : Nat) (hn : ¬ ((a = 0 ∧ b = 6) ∨ (a = 10 ∧ b = 1))) : τ.1 a b = σ.1 a b := by
  rcases h.1 a b with q | q | q
  · exact absurd (Or.inl q) hn
  · exact absurd (Or.inr q) hn
  · exact q
theorem iv_same.r {σ τ : pm_S} (h : iv_same σ τ) (a : Nat) (hn : ¬ (a = 11 ∨ a = 43)) : τ.2.2 a = σ.2.2 a := by
  rcases h.2.2 a with q | q | q
  · exact absurd (Or.inl q) hn
  · exact absurd (Or.inr q) hn
  · exact q
theorem iv_R.same {σ τ : pm_S} (h : iv_same σ τ) (hR : iv_R σ) : iv_R τ := by
  unfold iv_R at hR ⊢
  rw [h.i 0 7 (by decide), h.i 10 51 (by decide), h.i 0 8 (by decide), h.i 10 52 (by decide), h.i 0 9 (by decide), h.i 10 54 (by decide), h.i 3 8 (by decide), h.i 5 8 (by decide), h.i 10 35 (by decide), h.i 0 10 (by decide), h.i 10 50 (by decide), h.i 0 11 (by decide), h.i 10 49 (by decide), h.r 75 (by decide), h.r 19 (by decide), h.r 49 (by decide), h.r 24 (by decide), h.r 56 (by decide), h.r 25 (by decide), h.r 57 (by decide), h.r 26 (by decide), h.r 58 (by decide), h.r 29 (by decide), h.r 67 (by decide), h.r 30 (by decide), h.r 68 (by decide)]
  exact hR
/-- both answer alike, and what holds goes on holding -/
def iv_Step (J : pm_S → Prop) (d tx tm : Nat) (As : List Value) (σ : pm_S) : Prop := pm_call pm_Y0 d tx (.ref 0 :: As) σ (fun r1 σ1 => ∃ v : Int32, r1 = some (.int v) ∧ pm_call pm_Y0 d tm (.ref 10 :: As) σ1 (fun r2 σ2 => r2 = some (.int v) ∧ iv_Inv J σ2))
section IVS
variable {J : pm_S → Prop} {d : Nat} {σ : pm_S}
theorem st_clear (hJ : ∀ σ τ, iv_same σ τ → J σ → J τ) (h : iv_Inv J σ) : iv_Step J (d + 2) 1 196 [] σ := by
  obtain ⟨⟨n, hn, e1, e2, e3, e4⟩, hR, hj⟩ := h
  refine sp1 ⟨_, rfl, sp196 ?_⟩
  refine ⟨congrArg (fun z => some (Value.int z)) (show σ.1 10 1 = σ.1 0 6 by rw [e1, e2]), ?_⟩
  have hs : iv_same σ (pm_pi (pm_pi σ 0 6 0) 10 1 0) := by
    refine ⟨fun a b => ?_, rfl, fun a => Or.inr (Or.inr rfl)⟩
    by_cases h1 : a = 0 ∧ b = 6
    · exact Or.inl h1
    · by_cases h2 : a = 10 ∧ b = 1
      · exact Or.inr (Or.inl h2)
      · refine Or.inr (Or.inr ?_)
        simp only [pm_pi]
        by_cases a1 : a = 10 <;> by_cases a2 : a = 0 <;> by_cases b1 : b = 1 <;> by_cases b2 : b = 6 <;> simp_all
  exact ⟨⟨0, by omega, rfl, rfl, e3, e4⟩, hR.same hs, hJ _ _ hs hj⟩
theorem iv_same_tx {f g : Nat → Int32} {x y : Int32} : iv_same σ (pm_pi (pm_pr (pm_pi (pm_pr σ 11 f) 0 6 x) 43 g) 10 1 y) := by
  refine ⟨fun a b => ?_, rfl, fun a => ?_⟩
  · by_cases h1 : a = 0 ∧ b = 6
    · exact Or.inl h1
    · by_cases h2 : a = 10 ∧ b = 1
      · exact Or.inr (Or.inl h2)
      · refine Or.inr (Or.inr ?_)
        simp only [pm_pi, pm_pr]
        by_cases a1 : a = 10 <;> by_cases a2 : a = 0 <;> by_cases b1 : b = 1 <;> by_cases b2 : b = 6 <;> simp_all
  · by_cases h1 : a = 11
    · exact Or.inl h1
    · by_cases h2 : a = 43
      · exact Or.inr (Or.inl h2)
      · exact Or.inr (Or.inr (by simp [pm_pi, pm_pr, h1, h2]))
theorem st_feed (hJ : ∀ σ τ, iv_same σ τ → J σ → J τ) {x1 x2 x3 x4 x5 : Int32} (h : iv_Inv J σ) : iv_Step J (d + 2) 2 197 [.int x1, .int x2, .int x3, .int x4, .int x5] σ := by
  obtain ⟨⟨n, hn, e1, e2, e3, e4⟩, hR, hj⟩ := h
  by_cases hf : n + 20 ≤ 8192
  · refine sp2_ok hf e1 ⟨_, rfl, sp197_ok (n := n) hf e2 ?_⟩
    refine ⟨rfl, ⟨n + 20, hf, rfl, rfl, ?_, ?_⟩, hR.same iv_same_tx, hJ _ _ iv_same_tx hj⟩
    · show tx_20 tx_b (σ.2.2 11) n x1 x2 x3 x4 x5 = tx_20 tx_m (σ.2.2 43) n x1 x2 x3 x4 x5
      rw [tx_20e, e3]
    · exact tx_By20 e4
  · refine sp2_no (by omega) hn e1 ⟨_, rfl, sp197_no (by omega) hn e2 ?_⟩
    exact ⟨rfl, ⟨n, hn, e1, e2, e3, e4⟩, hR, hj⟩
theorem iv_same_pi {x y : Int32} : iv_same σ (pm_pi (pm_pi σ 0 6 x) 10 1 y) := by
  refine ⟨fun a b => ?_, rfl, fun a => Or.inr (Or.inr rfl)⟩
  by_cases h1 : a = 0 ∧ b = 6
  · exact Or.inl h1
  · by_cases h2 : a = 10 ∧ b = 1
    · exact Or.inr (Or.inl h2)
    · refine Or.inr (Or.inr ?_)
      simp only [pm_pi]
      by_cases a1 : a = 10 <;> by_cases a2 : a = 0 <;> by_cases b1 : b = 1 <;> by_cases b2 : b = 6 <;> simp_all
theorem st_end (hJ : ∀ σ τ, iv_same σ τ → J σ → J τ) {x : Int32} (h : iv_Inv J σ) : iv_Step J (d + 2) 4 199 [.int x] σ := by
  obtain ⟨⟨n, hn, e1, e2, e3, e4⟩, hR, hj⟩ := h
  refine sp4 (fun hb => ?_) (fun h1 h2 h3 => ?_)
  · refine ⟨_, rfl, sp199 (fun _ => ?_) (fun a1 a2 a3 => ?_)⟩
    · exact ⟨rfl, ⟨n, hn, e1, e2, e3, e4⟩, hR, hj⟩
    · rcases hb with hb | hb | hb
      · exact absurd hb a1
      · exact absurd hb a2
      · rw [e1] at hb; rw [e2] at a3; exact absurd a3 hb
  · have hk : ∃ k : Nat, k ≤ 20 ∧ x = nI k := nI_of2 (M := 20) rfl h1 (Int32.not_lt.mp h2)
    obtain ⟨k, hk1, rfl⟩ := hk
    have hn20 : 20 ≤ n := by
      rw [e1] at h3
      exact (nI_leI (a := 20) (by omega) (by omega)).mp h3
    have he : nI n - 20 + nI k = nI (n - 20 + k) := by
      rw [show (20 : Int32) = nI 20 from rfl, pk_sub hn20, nI_add]
    refine ⟨_, rfl, sp199 (fun hb => ?_) (fun a1 a2 a3 => ?_)⟩
    · rcases hb with hb | hb | hb
      · exact absurd hb h1
      · exact absurd hb h2
      · have hb : ¬ (20 : Int32) ≤ σ.1 10 1 := hb
        rw [e2] at hb; rw [e1] at h3; exact absurd h3 hb
    · refine ⟨congrArg (fun z => some (Value.int z)) (show σ.1 10 1 - 20 + nI k = σ.1 0 6 - 20 + nI k by rw [e1, e2]), ⟨n - 20 + k, by omega, ?_, ?_, e3, e4⟩, hR.same iv_same_pi, hJ _ _ iv_same_pi hj⟩
      · show σ.1 0 6 - 20 + nI k = _
        rw [e1, he]
      · show σ.1 10 1 - 20 + nI k = _
        rw [e2, he]
end IVS
