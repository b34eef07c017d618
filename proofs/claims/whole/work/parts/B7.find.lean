/-! WHAT HOLDS OF BLOCKS AND VARIABLES; the class's look-ups -/
def pv_T (t : Int32) : Prop := t = 0 ∨ t = 1 ∨ t = 2
def pv_v (r : List rl_B) (v : rl_V) : Prop := v.2.1 ≤ 3 ∧ v.2.2.2.1 ≤ 2 ∧ (v.2.1 ≤ 1 → pv_T v.2.2.1) ∧ (v.2.1 = 2 → ∃ q, q < 9 + r.length ∧ v.2.2.1 = nI q ∧ cb_kd r q = 2) ∧ v.2.2.2.2.2 ≤ 4096 ∧ (v.2.2.2.2.1 = -1 ∨ ∃ a o, a < 6 ∧ o < 256 ∧ (3 ≤ a → o < 64) ∧ v.2.2.2.2.1 = nI (256 * a + o)) ∧ (v.2.2.2.1 ≠ 0 → v.2.1 = 0 ∨ v.2.1 = 3)
def pv_Y (r : List rl_B) (y : rl_B) : Prop := (1 ≤ y.1 ∧ y.1 ≤ 3) ∧ cb_nm r y.2.1 = none ∧ rl_fn y.2.1 = none ∧ y.2.2.2.1 < 2 ^ 28 ∧ (∀ v ∈ y.2.2.2.2, pv_v r v) ∧ y.2.2.2.2.Pairwise (fun a b => a.1 ≠ b.1)
/-- a block that has ended -/
def pv_D (z : rl_B) : Prop := (∀ v ∈ z.2.2.2.2, v.2.1 ≠ 3) ∧ (z.1 = 1 → rl_nin z ≤ 8) ∧ (z.1 ≠ 3 → ∀ v ∈ z.2.2.2.2, v.2.2.2.2.1 = -1)
def pv_B : List rl_B → Prop
  | [] => True
  | y :: r => pv_Y r y ∧ (∀ z, r.head? = some z → pv_D z) ∧ pv_B r
theorem pv_hf {B : List rl_B} (h : pv_B B) (hB : B ≠ []) : cb_nm B.tail (rl_hd B).2.1 = none := by
  cases B with
  | nil => exact absurd rfl hB
  | cons y r => exact h.1.2.1
theorem pv_blk : ∀ {B : List rl_B} {b : Nat} {y : rl_B}, pv_B B → rl_blk B b = some y → ∃ r, r.length = b ∧ pv_Y r y
  | [], b, y, _, h => by unfold rl_blk at h; simp at h
  | z :: r, b, y, hp, h => by
    rw [rl_blkc] at h
    by_cases q : b = r.length
    · rw [if_pos q] at h
      cases h
      exact ⟨r, q.symm, hp.1⟩
    · rw [if_neg q] at h
      exact pv_blk hp.2.2 h
theorem pv_kd {B : List rl_B} (h : pv_B B) (q : Nat) : cb_kd B q < 2 ^ 30 := by
  unfold cb_kd
  by_cases w : q < 9
  · rw [if_pos w]; decide
  · rw [if_neg w]
    cases e : rl_blk B (q - 9) with
    | none => decide
    | some y =>
      obtain ⟨r, _, hy⟩ := pv_blk h e
      have := hy.1.2
      show y.1 < _
      omega
theorem pv_dn : ∀ {B : List rl_B} {b : Nat} {y : rl_B}, pv_B B → rl_blk B b = some y → b + 1 < B.length → pv_D y
  | [], b, y, _, h, _ => by unfold rl_blk at h; simp at h
  | z :: r, b, y, hp, h, hb => by
    rw [List.length_cons] at hb
    rw [rl_blkc, if_neg (by omega)] at h
    by_cases q : b + 1 < r.length
    · exact pv_dn hp.2.2 h q
    · cases r with
      | nil => rw [List.length_nil] at hb; omega
      | cons u s =>
        rw [List.length_cons] at q hb
        rw [rl_blkc, if_pos (by omega)] at h
        cases h
        exact hp.2.1 _ rfl
theorem pv_st {B : List rl_B} {b : Nat} {y : rl_B} (hp : pv_B B) (h : rl_blk B b = some y) (hb : b + 1 < B.length) : ∀ v ∈ y.2.2.2.2, v.2.1 ≠ 3 := (pv_dn hp h hb).1
theorem cv_hO {B : List rl_B} {o : Nat} (hl : B.length ≤ 409) (ho : o < 2 ^ 30) : ∀ i, i < (cv_L B).length → nI ((cv_L B).getD i cv_z).1 = nI o → ((cv_L B).getD i cv_z).1 = o := fun i hi e => by
  have := cv_own B i _ _ (cv_gi hi)
  exact hp_inj (by omega) (by omega) e
theorem rl_blkh {B : List rl_B} (hB : B ≠ []) : rl_blk B (B.length - 1) = some (rl_hd B) := by
  cases B with
  | nil => exact absurd rfl hB
  | cons y r => rw [rl_blkc, List.length_cons, if_pos (by omega)]; rfl
theorem rl_len {B : List rl_B} (hB : B ≠ []) : 0 < B.length := by
  cases B with
  | nil => exact absurd rfl hB
  | cons y r => rw [List.length_cons]; omega
/-- a variable of the current block -/
theorem cr134 {d : Nat} {l : List pg_N} {NN nx : Nat} {σ0 σ : pm_S} {A : rl_A} {Q : Option Value → pm_S → Prop} {x : Int32} (h : cr_I l NN σ0 σ nx A) (hB : A.1 ≠ []) (hx : 0 ≤ x.toInt ∧ x.toInt < NN) (h0 : rl_find (rl_cur A).2.2.2.2 x = none → Q (some (.int (-1))) σ) (h1 : ∀ i o v, rl_find (rl_cur A).2.2.2.2 x = some v → (cv_L A.1)[i]? = some (o, v) → Q (some (.int (nI i))) σ) : pm_call pm_Y0 (d + 1) 134 [.ref 6, .int (nI (8 + A.1.length)), .int x] σ Q := by
  obtain ⟨q1, q2, q3, q4, q5, q6, q7⟩ := h
  have hl := q5.1
  have hp := rl_len hB
  refine cf134 q1 q6 (by omega) hx (cv_hO hl (by omega)) ?_
  have := cv_fow A.1 (A.1.length - 1) _ x (rl_blkh hB)
  rw [show 9 + (A.1.length - 1) = 8 + A.1.length by omega] at this
  cases e : rl_find (rl_hd A.1).2.2.2.2 x with
  | none => rw [this.1 e]; exact h0 e
  | some v =>
    obtain ⟨i, e1, e2⟩ := this.2 v e
    rw [e1]
    exact h1 i _ v e e2
theorem cr138 {d : Nat} {l : List pg_N} {NN nx : Nat} {σ0 σ : pm_S} {A : rl_A} {Q : Option Value → pm_S → Prop} {x : Int32} {q s : Nat} (h : cr_I l NN σ0 σ nx A) (hq : q < 9 + A.1.length) (hs : s ≤ 2) (hx : 0 ≤ x.toInt ∧ x.toInt < NN) (h0 : (∀ p t c, rl_pin A.1 q x = some (p, t, c) → p ≠ s) → Q (some (.int (-1))) σ) (h1 : ∀ i v t c, rl_pin A.1 q x = some (s, t, c) → (cv_L A.1)[i]? = some (q, v) → v.2.2.2.1 = s ∧ v.2.2.1 = t ∧ v.2.2.2.2.2 = c → (q < 9 → v.2.1 = 0) ∧ (9 ≤ q → ∃ y, rl_blk A.1 (q - 9) = some y ∧ rl_find y.2.2.2.2 x = some v) → Q (some (.int (nI i))) σ) : pm_call pm_Y0 (d + 2) 138 [.ref 6, .int (nI q), .int x, .int (nI s)] σ Q := by
  obtain ⟨q1, q2, q3, q4, q5, q6, q7⟩ := h
  have hl := q5.1
  have P := cv_pin (B := A.1) (x := x) hq
  refine cf138 q1 q6 (by omega) hx (cv_hO hl (by omega)) hs (fun i v e1 e2 e3 => ?_) (fun hn => h0 (fun p t c e => ?_))
  · cases e : rl_pin A.1 q x with
    | none => rw [P.1 e] at e1; cases e1
    | some w =>
      obtain ⟨p, t, c⟩ := w
      obtain ⟨i', v', f1, f2, f3, f4, f5, f6, f7⟩ := P.2 p t c e
      rw [e1] at f1
      cases f1
      rw [e2] at f2
      cases f2
      have : p = s := f3.symm.trans e3
      subst this
      exact h1 i v t c e e2 ⟨f3, f4, f5⟩ ⟨f6, f7⟩
  · obtain ⟨i', v', f1, f2, f3, f4, f5, f6, f7⟩ := P.2 p t c e
    exact fun z => hn i' v' f1 f2 (f3.trans z)
/-- cells for the current block -/
theorem cr113 {d : Nat} {l : List pg_N} {NN nx : Nat} {σ0 σ : pm_S} {A : rl_A} {Q : Option Value → pm_S → Prop} {n : Nat} (h : cr_I l NN σ0 σ nx A) (hB : A.1 ≠ []) (hQ : ∀ σ', cr_I l NN σ0 σ' nx (rl_tk A n) → Q (some (.int (nI (rl_fr A)))) σ') : pm_call pm_Y0 (d + 1) 113 [.ref 5, .int (nI n)] σ Q := by
  obtain ⟨q1, q2, q3, q4, q5, q6, q7⟩ := h
  obtain ⟨B, T⟩ := A
  cases B with
  | nil => exact absurd rfl hB
  | cons y r =>
    refine cb113 q5 (fun σ' hb u => hQ σ' ⟨q1, q2, cb_Uc q3 u, cb_Ud q4 u, hb, ?_, ?_⟩)
    · exact cb_Uv q6 u
    · exact cb_Up q7 u
/-- the current block's number -/
theorem cr116 {d : Nat} {l : List pg_N} {NN nx : Nat} {σ0 σ : pm_S} {A : rl_A} {Q : Option Value → pm_S → Prop} (h : cr_I l NN σ0 σ nx A) (hB : A.1 ≠ []) (hQ : Q (some (.int (nI (8 + A.1.length)))) σ) : pm_call pm_Y0 (d + 1) 116 [.ref 5] σ Q := cb116 h.2.2.2.2.1 hB hQ
theorem cr121 {d : Nat} {l : List pg_N} {NN nx : Nat} {σ0 σ : pm_S} {A : rl_A} {Q : Option Value → pm_S → Prop} (h : cr_I l NN σ0 σ nx A) (hB : A.1 ≠ []) (hQ : Q (some (.int (nI (rl_cur A).1))) σ) : pm_call pm_Y0 (d + 1) 121 [.ref 5, .int (nI (8 + A.1.length))] σ Q := by
  have := rl_len hB
  have e : 8 + A.1.length = 9 + (A.1.length - 1) := by omega
  rw [e]
  exact cb121 h.2.2.2.2.1 (rl_blkh hB) hQ
theorem d147_0 : decode prog_7_method_8_code 0 = .ok (.aload_n 0, 1) := by decide +kernel
theorem d147_1 : decode prog_7_method_8_code 1 = .ok (.getfield 19, 3) := by decide +kernel
theorem d147_4 : decode prog_7_method_8_code 4 = .ok (.aload_n 0, 1) := by decide +kernel
theorem d147_5 : decode prog_7_method_8_code 5 = .ok (.getfield 19, 3) := by decide +kernel
theorem d147_8 : decode prog_7_method_8_code 8 = .ok (.invokevirtual 129, 3) := by decide +kernel
theorem d147_11 : decode prog_7_method_8_code 11 = .ok (.invokevirtual 183, 3) := by decide +kernel
theorem d147_14 : decode prog_7_method_8_code 14 = .ok (.iload_n 1, 1) := by decide +kernel
theorem d147_15 : decode prog_7_method_8_code 15 = .ok (.if_icmp .ne 7, 3) := by decide +kernel
theorem d147_18 : decode prog_7_method_8_code 18 = .ok (.iconst 1, 1) := by decide +kernel
theorem d147_19 : decode prog_7_method_8_code 19 = .ok (.goto 4, 3) := by decide +kernel
theorem d147_22 : decode prog_7_method_8_code 22 = .ok (.iconst 0, 1) := by decide +kernel
theorem d147_23 : decode prog_7_method_8_code 23 = .ok (.ireturn, 1) := by decide +kernel
theorem m147 : pm_m 147 = some (⟨"TypeRules$Rules", "isIn", "(I)Z"⟩, prog_7_method_8_code, 2, (some FieldType.boolean), 7, 1, 8) := rfl
theorem d183_0 : decode prog_8_method_3_code 0 = .ok (.aload_n 0, 1) := by decide +kernel
theorem d183_1 : decode prog_8_method_3_code 1 = .ok (.getfield 25, 3) := by decide +kernel
theorem d183_4 : decode prog_8_method_3_code 4 = .ok (.aload_n 0, 1) := by decide +kernel
theorem d183_5 : decode prog_8_method_3_code 5 = .ok (.getfield 15, 3) := by decide +kernel
theorem d183_8 : decode prog_8_method_3_code 8 = .ok (.invokevirtual 77, 3) := by decide +kernel
theorem d183_11 : decode prog_8_method_3_code 11 = .ok (.iload_n 1, 1) := by decide +kernel
theorem d183_12 : decode prog_8_method_3_code 12 = .ok (.invokevirtual 81, 3) := by decide +kernel
theorem d183_15 : decode prog_8_method_3_code 15 = .ok (.ireturn, 1) := by decide +kernel
theorem m183 : pm_m 183 = some (⟨"TypeRules$Statements", "find", "(I)I"⟩, prog_8_method_3_code, 2, (some FieldType.int), 9, 1, 10) := rfl
theorem cr147 {d : Nat} {l : List pg_N} {NN nx : Nat} {σ0 σ : pm_S} {A : rl_A} {Q : Option Value → pm_S → Prop} {k : Nat} (hk : k < 2 ^ 30) (hp : pv_B A.1) (h : cr_I l NN σ0 σ nx A) (hB : A.1 ≠ []) (hQ : Q (some (.int (b2 (decide ((rl_cur A).1 = k))))) σ) : pm_call pm_Y0 (d + 2) 147 [.ref 7, .int (nI k)] σ Q := by
  have hc : (rl_cur A).1 < 2 ^ 30 := by
    obtain ⟨r, _, hy⟩ := pv_blk hp (rl_blkh hB)
    have := hy.1.2
    show (rl_hd A.1).1 < _
    omega
  refine wq_m m147 (Nat.le_of_ble_eq_true rfl) (by decide) rfl ?_
  refine wq_l 1 d147_0 rfl rfl rfl rfl ?_
  refine wq_gr (ci := 7) (j := 2) (q := 5) 4 d147_1 rfl rfl rfl rfl ?_
  refine wq_l 5 d147_4 rfl rfl rfl rfl ?_
  refine wq_gr (ci := 7) (j := 2) (q := 5) 8 d147_5 rfl rfl rfl rfl ?_
  refine wq_v 11 [] d147_8 rfl rfl m116 rfl rfl (Nat.le_of_ble_eq_true rfl) rfl (cr116 h hB ?_)
  refine wq_v 14 [_] d147_11 rfl rfl m121 rfl rfl (Nat.le_of_ble_eq_true rfl) rfl (cr121 h hB ?_)
  refine wq_l 15 d147_14 rfl rfl rfl rfl ?_
  refine wq_b 22 18 d147_15 rfl (by decide) rfl (fun c15 => ?_) (fun c15 => ?_)
  · -- pc 22
    refine wq_k 23 0 d147_22 (by decide) rfl ?_
    refine wq_ri d147_23 (rfl) ?_
    first | (rw [decide_eq_true (hp_inj (by omega) (by omega) (Classical.not_not.mp c15))] at hQ; exact hQ) | (rw [decide_eq_false (fun z => c15 (congrArg nI z))] at hQ; exact hQ)
  · -- pc 18
    refine wq_k 19 1 d147_18 (by decide) rfl ?_
    refine wq_g 23 d147_19 (by decide) ?_
    refine wq_ri d147_23 (rfl) ?_
    first | (rw [decide_eq_true (hp_inj (by omega) (by omega) (Classical.not_not.mp c15))] at hQ; exact hQ) | (rw [decide_eq_false (fun z => c15 (congrArg nI z))] at hQ; exact hQ)
theorem cr183 {d : Nat} {l : List pg_N} {NN nx : Nat} {σ0 σ : pm_S} {A : rl_A} {Q : Option Value → pm_S → Prop} {x : Int32} (h : cr_I l NN σ0 σ nx A) (hB : A.1 ≠ []) (hx : 0 ≤ x.toInt ∧ x.toInt < NN) (h0 : rl_find (rl_cur A).2.2.2.2 x = none → Q (some (.int (-1))) σ) (h1 : ∀ i o v, rl_find (rl_cur A).2.2.2.2 x = some v → (cv_L A.1)[i]? = some (o, v) → Q (some (.int (nI i))) σ) : pm_call pm_Y0 (d + 2) 183 [.ref 9, .int x] σ Q := by
  refine wq_m m183 (Nat.le_of_ble_eq_true rfl) (by decide) rfl ?_
  refine wq_l 1 d183_0 rfl rfl rfl rfl ?_
  refine wq_gr (ci := 9) (j := 2) (q := 6) 4 d183_1 rfl rfl rfl rfl ?_
  refine wq_l 5 d183_4 rfl rfl rfl rfl ?_
  refine wq_gr (ci := 9) (j := 1) (q := 5) 8 d183_5 rfl rfl rfl rfl ?_
  refine wq_v 11 [] d183_8 rfl rfl m116 rfl rfl (Nat.le_of_ble_eq_true rfl) rfl (cr116 h hB ?_)
  refine wq_l 12 d183_11 rfl rfl rfl rfl ?_
  refine wq_v 15 [_, _] d183_12 rfl rfl m134 rfl rfl (Nat.le_of_ble_eq_true rfl) rfl (cr134 h hB hx (fun e => ?_) (fun i o v e1 e2 => ?_))
  · refine wq_ri d183_15 rfl ?_
    exact h0 e
  · refine wq_ri d183_15 rfl ?_
    exact h1 i o v e1 e2
