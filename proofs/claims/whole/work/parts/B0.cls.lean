/-! THE CLASS'S RULES: what its state says -/
def cc_F (σ0 σ : pm_S) : Prop := (∀ a b, (a = 5 ∧ 8 ≤ b) ∨ (a = 6 ∧ b = 8) ∨ (a = 7 ∧ b = 7) ∨ σ.1 a b = σ0.1 a b) ∧ σ.2.1 = σ0.2.1 ∧ ∀ k, (23 ≤ k ∧ k ≤ 42) ∨ σ.2.2 k = σ0.2.2 k
def ct_Z (l : List pg_N) (σ : pm_S) : Prop := l.length ≤ 16386 ∧ tz_w l ∧ σ.1 3 8 = nI l.length ∧ ∀ i, i < l.length → rl_k l i ≤ 36 ∧ σ.2.2 19 i = nI (rl_k l i) ∧ σ.2.2 20 i = nI (rl_x l i).2.1 ∧ σ.2.2 21 i = rl_v l i ∧ σ.2.2 22 i = nI (rl_z l i)
def ct_D (l : List pg_N) (nx : Nat) (A : rl_A) (σ : pm_S) : Prop := ∀ i, i < l.length → (i < nx → σ.2.2 23 i = hp_oi (rl_up l i).head?) ∧ σ.2.2 24 i = A.2.1 i ∧ σ.2.2 25 i = A.2.2.1 i ∧ σ.2.2 26 i = A.2.2.2 i
/-- all variables: of the standard blocks, then of the own ones in their order -/
def cv_P : List (Nat × rl_V) := rl_pins.map (fun r => (r.1, r.2.1, 0, r.2.2.2.1, r.2.2.1, -1, r.2.2.2.2))
def cv_L : List rl_B → List (Nat × rl_V)
  | [] => cv_P
  | b :: r => cv_L r ++ b.2.2.2.2.reverse.map (fun v => (9 + r.length, v))
/-- the newest of this name among the first k -/
def cv_ch (F : List (Nat × rl_V)) (x : Int32) : Nat → Option Nat
  | 0 => none
  | k + 1 => if ((F.getD k (0, 0, 0, 0, 0, 0, 0)).2.1) = x then some k else cv_ch F x k
def rl_ro (v : rl_V) : Bool := decide (v.2.2.2.1 = 1 ∨ (v.2.1 ≠ 3 ∧ v.2.2.2.2.1 ≠ -1 ∧ rl_area v.2.2.2.2.1 % 3 = 0))
def cv_at (σ : pm_S) (i : Nat) (v : rl_V) : Prop := (v.2.2.2.1 ≤ 2 ∧ v.2.1 ≤ 3) ∧ σ.2.2 37 i = nI v.2.2.2.1 ∧ σ.2.2 41 i = b2 (rl_ro v) ∧ (v.2.1 ≠ 3 → σ.2.2 38 i = nI (8 + v.2.1) ∧ σ.2.2 39 i = v.2.2.1 ∧ σ.2.2 40 i = nI v.2.2.2.2.2)
def cv_I (NN : Nat) (F : List (Nat × rl_V)) (σ : pm_S) : Prop := F.length ≤ 4128 ∧ σ.1 6 8 = nI F.length ∧ (∀ i o v, F[i]? = some (o, v) → σ.2.2 36 i = nI o ∧ cv_at σ i v ∧ σ.2.2 35 i = hp_oi (cv_ch F v.1 i)) ∧ ∀ x, x < NN → σ.2.2 34 x = hp_oi (cv_ch F (nI x) F.length)
/-- the block of this name, standard ones first -/
def cb_nm (B : List rl_B) (x : Int32) : Option Nat := match rl_sb x with
  | some s => some s
  | none => (rl_own B x).map (fun y => 9 + y.1)
def cb_at (l : List pg_N) (σ : pm_S) (b : Nat) (y : rl_B) : Prop := σ.2.2 28 (9 + b) = nI y.1 ∧ σ.2.2 29 (9 + b) = nI y.2.2.2.1 ∧ σ.2.2 30 (9 + b) = -1 ∧ σ.2.2 31 (9 + b) = (if y.1 = 1 then rl_v l (y.2.2.1 + 1) else -1) ∧ σ.2.2 32 (9 + b) = nI (rl_nin y) ∧ ∀ j t, j < 8 → (rl_ins y)[j]? = some t → σ.2.2 33 ((9 + b) * 8 + j) = t
def rl_hd (B : List rl_B) : rl_B := B.headD (0, -1, 0, 0, [])
def cb_I (l : List pg_N) (NN : Nat) (B : List rl_B) (σ : pm_S) : Prop := B.length ≤ 409 ∧ σ.1 5 8 = nI (9 + B.length) ∧ σ.1 5 10 = b2 (decide ((rl_hd B).1 = 3)) ∧ (∀ s, s < 9 → σ.2.2 28 s = 2 ∧ σ.2.2 29 s = nI (rl_ssz s)) ∧ (∀ b y, rl_blk B b = some y → cb_at l σ b y) ∧ ∀ x, x < NN → σ.2.2 27 x = hp_oi (cb_nm B (nI x))
def cp_I (B : List rl_B) (σ : pm_S) : Prop := ∀ c, c < 960 → (σ.2.2 42 c = 0 ∨ σ.2.2 42 c = 1) ∧ (σ.2.2 42 c = 1 ↔ ∃ v ∈ (rl_hd B).2.2.2.2, v.2.2.2.2.1 ≠ -1 ∧ rl_img v.2.2.2.2.1 = c)
def cr_I (l : List pg_N) (NN : Nat) (σ0 σ : pm_S) (nx : Nat) (A : rl_A) : Prop := NN ≤ 4171 ∧ ct_Z l σ0 ∧ cc_F σ0 σ ∧ ct_D l nx A σ ∧ cb_I l NN A.1 σ ∧ cv_I NN (cv_L A.1) σ ∧ cp_I A.1 σ
/-! moves of the frame -/
theorem cc_r (σ : pm_S) : cc_F σ σ := ⟨fun _ _ => Or.inr (Or.inr (Or.inr rfl)), rfl, fun _ => Or.inr rfl⟩
theorem cc_pi {σ0 σ : pm_S} {a b : Nat} {x : Int32} (h : cc_F σ0 σ) (hab : (a = 5 ∧ 8 ≤ b) ∨ (a = 6 ∧ b = 8) ∨ (a = 7 ∧ b = 7)) : cc_F σ0 (pm_pi σ a b x) := by
  refine ⟨fun a' b' => ?_, h.2.1, h.2.2⟩
  by_cases q : a' = a ∧ b' = b
  · obtain ⟨rfl, rfl⟩ := q; omega
  · have e : (pm_pi σ a b x).1 a' b' = σ.1 a' b' := by
      unfold pm_pi
      by_cases q1 : a' = a
      · by_cases q2 : b' = b
        · exact absurd ⟨q1, q2⟩ q
        · simp [q1, q2]
      · simp [q1]
    rw [e]; exact h.1 a' b'
theorem cc_pr {σ0 σ : pm_S} {k : Nat} {f : Nat → Int32} (h : cc_F σ0 σ) (hk : 23 ≤ k ∧ k ≤ 42) : cc_F σ0 (pm_pr σ k f) := by
  refine ⟨h.1, h.2.1, fun k' => ?_⟩
  by_cases q : k' = k
  · left; omega
  · rw [pm_rne q]; exact h.2.2 k'
theorem ct_Zf {l : List pg_N} {σ0 σ : pm_S} (h : ct_Z l σ0) (f : cc_F σ0 σ) : ct_Z l σ := by
  obtain ⟨h1, hw, h2, h3⟩ := h
  have e8 : σ.1 3 8 = σ0.1 3 8 := (((f.1 3 8).resolve_left (by decide)).resolve_left (by decide)).resolve_left (by decide)
  have g : ∀ k, k < 23 → σ.2.2 k = σ0.2.2 k := fun k hk => (f.2.2 k).resolve_left (by omega)
  refine ⟨h1, hw, e8.trans h2, fun i hi => ?_⟩
  rw [g 19 (by omega), g 20 (by omega), g 21 (by omega), g 22 (by omega)]
  exact h3 i hi
theorem cr_S {l : List pg_N} {NN nx : Nat} {σ0 σ : pm_S} {A : rl_A} (h : cr_I l NN σ0 σ nx A) : ct_Z l σ := ct_Zf h.2.1 h.2.2.1
/-! the tree's methods -/
theorem ct_c {l : List pg_N} {σ : pm_S} (h : ct_Z l σ) : σ.1 3 8 ≤ 16386 := by
  rw [h.2.2.1, i_le, nI_toInt (by have := h.1; omega)]
  have := h.1
  show (l.length : Int) ≤ 16386
  omega
theorem ct_in {l : List pg_N} {σ : pm_S} (h : ct_Z l σ) {i : Nat} (hi : i < l.length) : (nI i).toNatClampNeg = i ∧ (0 : Int32) ≤ nI i ∧ nI i < σ.1 3 8 := by
  have := h.1
  refine ⟨nI_clamp (by omega), ?_, ?_⟩
  · rw [i_le, nI_toInt (by omega)]; show (0 : Int) ≤ _; omega
  · rw [h.2.2.1, i_lt, nI_toInt (by omega), nI_toInt (by omega)]; omega
theorem ck65 {d : Nat} {σ : pm_S} {Q : Option Value → pm_S → Prop} {l : List pg_N} {i : Nat} (h : ct_Z l σ) (hi : i < l.length) (hQ : Q (some (.int (nI (rl_k l i)))) σ) : pm_call pm_Y0 (d + 1) 65 [.ref 3, .int (nI i)] σ Q := by
  obtain ⟨e1, e2, e3⟩ := ct_in h hi
  refine sp65 (ct_c h) (fun _ _ => ?_) (fun q => absurd ⟨e2, e3⟩ q)
  rw [e1, (h.2.2.2 i hi).2.1]
  exact hQ
theorem ck65n {d : Nat} {σ : pm_S} {Q : Option Value → pm_S → Prop} {l : List pg_N} (h : ct_Z l σ) (hQ : Q (some (.int (-1))) σ) : pm_call pm_Y0 (d + 1) 65 [.ref 3, .int (-1)] σ Q := by
  exact sp65 (ct_c h) (fun q _ => absurd q (by decide)) (fun _ => hQ)
theorem ck74 {d : Nat} {σ : pm_S} {Q : Option Value → pm_S → Prop} {l : List pg_N} {i : Nat} (h : ct_Z l σ) (hi : i < l.length) (hQ : Q (some (.int (nI (rl_x l i).2.1))) σ) : pm_call pm_Y0 (d + 1) 74 [.ref 3, .int (nI i)] σ Q := by
  obtain ⟨e1, e2, e3⟩ := ct_in h hi
  refine sp74 (ct_c h) (fun _ _ => ?_) (fun q => absurd ⟨e2, e3⟩ q)
  rw [e1, (h.2.2.2 i hi).2.2.1]
  exact hQ
theorem ck74n {d : Nat} {σ : pm_S} {Q : Option Value → pm_S → Prop} {l : List pg_N} (h : ct_Z l σ) (hQ : Q (some (.int (-1))) σ) : pm_call pm_Y0 (d + 1) 74 [.ref 3, .int (-1)] σ Q := by
  exact sp74 (ct_c h) (fun q _ => absurd q (by decide)) (fun _ => hQ)
theorem ck66 {d : Nat} {σ : pm_S} {Q : Option Value → pm_S → Prop} {l : List pg_N} {i : Nat} (h : ct_Z l σ) (hi : i < l.length) (hQ : Q (some (.int (rl_v l i))) σ) : pm_call pm_Y0 (d + 1) 66 [.ref 3, .int (nI i)] σ Q := by
  obtain ⟨e1, e2, e3⟩ := ct_in h hi
  refine sp66 (ct_c h) (fun _ _ => ?_) (fun q => absurd ⟨e2, e3⟩ q)
  rw [e1, (h.2.2.2 i hi).2.2.2.1]
  exact hQ
theorem ck66n {d : Nat} {σ : pm_S} {Q : Option Value → pm_S → Prop} {l : List pg_N} (h : ct_Z l σ) (hQ : Q (some (.int (-1))) σ) : pm_call pm_Y0 (d + 1) 66 [.ref 3, .int (-1)] σ Q := by
  exact sp66 (ct_c h) (fun q _ => absurd q (by decide)) (fun _ => hQ)
theorem ck71 {d : Nat} {σ0 σ : pm_S} {Q : Option Value → pm_S → Prop} {l : List pg_N} {NN nx i : Nat} {A : rl_A} (h : cr_I l NN σ0 σ nx A) (hi : i < l.length) (hQ : Q (some (.int (A.2.1 i))) σ) : pm_call pm_Y0 (d + 1) 71 [.ref 3, .int (nI i)] σ Q := by
  have hS := cr_S h
  have hD := h.2.2.2.1
  obtain ⟨e1, e2, e3⟩ := ct_in hS hi
  refine sp71 (ct_c hS) (fun _ _ => ?_) (fun q => absurd ⟨e2, e3⟩ q)
  rw [e1, (hD i hi).2.1]
  exact hQ
theorem ck75 {d : Nat} {σ0 σ : pm_S} {Q : Option Value → pm_S → Prop} {l : List pg_N} {NN nx i : Nat} {A : rl_A} (h : cr_I l NN σ0 σ nx A) (hi : i < l.length) (hQ : Q (some (.int (A.2.2.1 i))) σ) : pm_call pm_Y0 (d + 1) 75 [.ref 3, .int (nI i)] σ Q := by
  have hS := cr_S h
  have hD := h.2.2.2.1
  obtain ⟨e1, e2, e3⟩ := ct_in hS hi
  refine sp75 (ct_c hS) (fun _ _ => ?_) (fun q => absurd ⟨e2, e3⟩ q)
  rw [e1, (hD i hi).2.2.1]
  exact hQ
theorem ck76 {d : Nat} {σ0 σ : pm_S} {Q : Option Value → pm_S → Prop} {l : List pg_N} {NN nx i : Nat} {A : rl_A} (h : cr_I l NN σ0 σ nx A) (hi : i < l.length) (hQ : Q (some (.int (A.2.2.2 i))) σ) : pm_call pm_Y0 (d + 1) 76 [.ref 3, .int (nI i)] σ Q := by
  have hS := cr_S h
  have hD := h.2.2.2.1
  obtain ⟨e1, e2, e3⟩ := ct_in hS hi
  refine sp76 (ct_c hS) (fun _ _ => ?_) (fun q => absurd ⟨e2, e3⟩ q)
  rw [e1, (hD i hi).2.2.2]
  exact hQ
theorem ck69 {d : Nat} {σ0 σ : pm_S} {Q : Option Value → pm_S → Prop} {l : List pg_N} {NN nx i : Nat} {A : rl_A} (h : cr_I l NN σ0 σ nx A) (hi : i < l.length) (hn : i < nx) (hQ : Q (some (.int (hp_oi (rl_up l i).head?))) σ) : pm_call pm_Y0 (d + 1) 69 [.ref 3, .int (nI i)] σ Q := by
  have hS := cr_S h
  obtain ⟨e1, e2, e3⟩ := ct_in hS hi
  refine sp69 (ct_c hS) (fun _ _ => ?_) (fun q => absurd ⟨e2, e3⟩ q)
  rw [e1, (h.2.2.2.1 i hi).1 hn]
  exact hQ
theorem d63_0 : decode prog_10_method_14_code 0 = .ok (.iload_n 1, 1) := by decide +kernel
theorem d63_1 : decode prog_10_method_14_code 1 = .ok (.ifCond .lt 26, 3) := by decide +kernel
theorem d63_4 : decode prog_10_method_14_code 4 = .ok (.iload_n 1, 1) := by decide +kernel
theorem d63_5 : decode prog_10_method_14_code 5 = .ok (.aload_n 0, 1) := by decide +kernel
theorem d63_6 : decode prog_10_method_14_code 6 = .ok (.getfield 36, 3) := by decide +kernel
theorem d63_9 : decode prog_10_method_14_code 9 = .ok (.if_icmp .ge 18, 3) := by decide +kernel
theorem d63_12 : decode prog_10_method_14_code 12 = .ok (.iload_n 1, 1) := by decide +kernel
theorem d63_13 : decode prog_10_method_14_code 13 = .ok (.aload_n 0, 1) := by decide +kernel
theorem d63_14 : decode prog_10_method_14_code 14 = .ok (.getfield 21, 3) := by decide +kernel
theorem d63_17 : decode prog_10_method_14_code 17 = .ok (.iload_n 1, 1) := by decide +kernel
theorem d63_18 : decode prog_10_method_14_code 18 = .ok (.iaload, 1) := by decide +kernel
theorem d63_19 : decode prog_10_method_14_code 19 = .ok (.iconst 1, 1) := by decide +kernel
theorem d63_20 : decode prog_10_method_14_code 20 = .ok (.invokestatic 50, 3) := by decide +kernel
theorem d63_23 : decode prog_10_method_14_code 23 = .ok (.iadd, 1) := by decide +kernel
theorem d63_24 : decode prog_10_method_14_code 24 = .ok (.goto 7, 3) := by decide +kernel
theorem d63_27 : decode prog_10_method_14_code 27 = .ok (.aload_n 0, 1) := by decide +kernel
theorem d63_28 : decode prog_10_method_14_code 28 = .ok (.getfield 36, 3) := by decide +kernel
theorem d63_31 : decode prog_10_method_14_code 31 = .ok (.ireturn, 1) := by decide +kernel
theorem m63 : pm_m 63 = some (⟨"TypeRules$Tree", "behind", "(I)I"⟩, prog_10_method_14_code, 2, (some FieldType.int), 3, 1, 4) := rfl
theorem d64_0 : decode prog_10_method_17_code 0 = .ok (.iload_n 1, 1) := by decide +kernel
theorem d64_1 : decode prog_10_method_17_code 1 = .ok (.ifCond .lt 18, 3) := by decide +kernel
theorem d64_4 : decode prog_10_method_17_code 4 = .ok (.iload_n 1, 1) := by decide +kernel
theorem d64_5 : decode prog_10_method_17_code 5 = .ok (.aload_n 0, 1) := by decide +kernel
theorem d64_6 : decode prog_10_method_17_code 6 = .ok (.getfield 36, 3) := by decide +kernel
theorem d64_9 : decode prog_10_method_17_code 9 = .ok (.if_icmp .ge 10, 3) := by decide +kernel
theorem d64_12 : decode prog_10_method_17_code 12 = .ok (.aload_n 0, 1) := by decide +kernel
theorem d64_13 : decode prog_10_method_17_code 13 = .ok (.getfield 24, 3) := by decide +kernel
theorem d64_16 : decode prog_10_method_17_code 16 = .ok (.iload_n 1, 1) := by decide +kernel
theorem d64_17 : decode prog_10_method_17_code 17 = .ok (.iload_n 2, 1) := by decide +kernel
theorem d64_18 : decode prog_10_method_17_code 18 = .ok (.iastore, 1) := by decide +kernel
theorem d64_19 : decode prog_10_method_17_code 19 = .ok (.return_, 1) := by decide +kernel
theorem m64 : pm_m 64 = some (⟨"TypeRules$Tree", "setParent", "(II)V"⟩, prog_10_method_17_code, 3, none, 3, 2, 4) := rfl
theorem d67_0 : decode prog_10_method_19_code 0 = .ok (.iload_n 1, 1) := by decide +kernel
theorem d67_1 : decode prog_10_method_19_code 1 = .ok (.ifCond .lt 18, 3) := by decide +kernel
theorem d67_4 : decode prog_10_method_19_code 4 = .ok (.iload_n 1, 1) := by decide +kernel
theorem d67_5 : decode prog_10_method_19_code 5 = .ok (.aload_n 0, 1) := by decide +kernel
theorem d67_6 : decode prog_10_method_19_code 6 = .ok (.getfield 36, 3) := by decide +kernel
theorem d67_9 : decode prog_10_method_19_code 9 = .ok (.if_icmp .ge 10, 3) := by decide +kernel
theorem d67_12 : decode prog_10_method_19_code 12 = .ok (.aload_n 0, 1) := by decide +kernel
theorem d67_13 : decode prog_10_method_19_code 13 = .ok (.getfield 30, 3) := by decide +kernel
theorem d67_16 : decode prog_10_method_19_code 16 = .ok (.iload_n 1, 1) := by decide +kernel
theorem d67_17 : decode prog_10_method_19_code 17 = .ok (.iload_n 2, 1) := by decide +kernel
theorem d67_18 : decode prog_10_method_19_code 18 = .ok (.iastore, 1) := by decide +kernel
theorem d67_19 : decode prog_10_method_19_code 19 = .ok (.return_, 1) := by decide +kernel
theorem m67 : pm_m 67 = some (⟨"TypeRules$Tree", "setCell", "(II)V"⟩, prog_10_method_19_code, 3, none, 3, 2, 4) := rfl
theorem d68_0 : decode prog_10_method_20_code 0 = .ok (.iload_n 1, 1) := by decide +kernel
theorem d68_1 : decode prog_10_method_20_code 1 = .ok (.ifCond .lt 18, 3) := by decide +kernel
theorem d68_4 : decode prog_10_method_20_code 4 = .ok (.iload_n 1, 1) := by decide +kernel
theorem d68_5 : decode prog_10_method_20_code 5 = .ok (.aload_n 0, 1) := by decide +kernel
theorem d68_6 : decode prog_10_method_20_code 6 = .ok (.getfield 36, 3) := by decide +kernel
theorem d68_9 : decode prog_10_method_20_code 9 = .ok (.if_icmp .ge 10, 3) := by decide +kernel
theorem d68_12 : decode prog_10_method_20_code 12 = .ok (.aload_n 0, 1) := by decide +kernel
theorem d68_13 : decode prog_10_method_20_code 13 = .ok (.getfield 33, 3) := by decide +kernel
theorem d68_16 : decode prog_10_method_20_code 16 = .ok (.iload_n 1, 1) := by decide +kernel
theorem d68_17 : decode prog_10_method_20_code 17 = .ok (.iload_n 2, 1) := by decide +kernel
theorem d68_18 : decode prog_10_method_20_code 18 = .ok (.iastore, 1) := by decide +kernel
theorem d68_19 : decode prog_10_method_20_code 19 = .ok (.return_, 1) := by decide +kernel
theorem m68 : pm_m 68 = some (⟨"TypeRules$Tree", "setMeaning", "(II)V"⟩, prog_10_method_20_code, 3, none, 3, 2, 4) := rfl
theorem d70_0 : decode prog_10_method_18_code 0 = .ok (.iload_n 1, 1) := by decide +kernel
theorem d70_1 : decode prog_10_method_18_code 1 = .ok (.ifCond .lt 18, 3) := by decide +kernel
theorem d70_4 : decode prog_10_method_18_code 4 = .ok (.iload_n 1, 1) := by decide +kernel
theorem d70_5 : decode prog_10_method_18_code 5 = .ok (.aload_n 0, 1) := by decide +kernel
theorem d70_6 : decode prog_10_method_18_code 6 = .ok (.getfield 36, 3) := by decide +kernel
theorem d70_9 : decode prog_10_method_18_code 9 = .ok (.if_icmp .ge 10, 3) := by decide +kernel
theorem d70_12 : decode prog_10_method_18_code 12 = .ok (.aload_n 0, 1) := by decide +kernel
theorem d70_13 : decode prog_10_method_18_code 13 = .ok (.getfield 27, 3) := by decide +kernel
theorem d70_16 : decode prog_10_method_18_code 16 = .ok (.iload_n 1, 1) := by decide +kernel
theorem d70_17 : decode prog_10_method_18_code 17 = .ok (.iload_n 2, 1) := by decide +kernel
theorem d70_18 : decode prog_10_method_18_code 18 = .ok (.iastore, 1) := by decide +kernel
theorem d70_19 : decode prog_10_method_18_code 19 = .ok (.return_, 1) := by decide +kernel
theorem m70 : pm_m 70 = some (⟨"TypeRules$Tree", "setType", "(II)V"⟩, prog_10_method_18_code, 3, none, 3, 2, 4) := rfl
theorem ck60 {d : Nat} {σ : pm_S} {Q : Option Value → pm_S → Prop} {l : List pg_N} (h : ct_Z l σ) (hQ : Q (some (.int (nI l.length))) σ) : pm_call pm_Y0 (d + 1) 60 [.ref 3] σ Q := by
  have e := h.2.2.1
  refine wq_m m60 (Nat.le_of_ble_eq_true rfl) (by decide) rfl ?_
  refine wq_l 1 d60_0 rfl rfl rfl rfl ?_
  refine wq_gi (ci := 3) (j := 8) 4 d60_1 rfl rfl rfl rfl ?_
  refine wq_ri d60_4 (rfl) ?_
  rw [e]; exact hQ
theorem ck63 {d : Nat} {σ : pm_S} {Q : Option Value → pm_S → Prop} {l : List pg_N} {i : Nat} (h : ct_Z l σ) (hi : i < l.length) (hQ : Q (some (.int (nI (i + rl_z l i)))) σ) : pm_call pm_Y0 (d + 1) 63 [.ref 3, .int (nI i)] σ Q := by
  obtain ⟨e1, e2, e3⟩ := ct_in h hi
  have e4 := (h.2.2.2 i hi).2.2.2.2
  have hl := h.1
  have e5 := h.2.2.1
  have ei := nI_toInt (n := i) (by omega)
  have el := nI_toInt (n := l.length) (by omega)
  have ez := rl_zc h.2.1 hi
  have eg := nI_toInt (n := rl_z l i) (by omega)
  refine wq_m m63 (Nat.le_of_ble_eq_true rfl) (by decide) rfl ?_
  refine wq_l 1 d63_0 rfl rfl rfl rfl ?_
  refine wq_b 27 4 d63_1 rfl (by decide) rfl (fun c1 => absurd c1 (by rw [i_lt]; rw [ei]; show ¬ (i : Int) < 0; omega)) (fun c1 => ?_)
  refine wq_l 5 d63_4 rfl rfl rfl rfl ?_
  refine wq_l 6 d63_5 rfl rfl rfl rfl ?_
  refine wq_gi (ci := 3) (j := 8) 9 d63_6 rfl rfl rfl rfl ?_
  refine wq_b 27 12 d63_9 rfl (by decide) rfl (fun c9 => absurd c9 (by rw [e5, i_le, ei, el]; omega)) (fun c9 => ?_)
  refine wq_l 13 d63_12 rfl rfl rfl rfl ?_
  refine wq_l 14 d63_13 rfl rfl rfl rfl ?_
  refine wq_gr (ci := 3) (j := 3) (q := 22) 17 d63_14 rfl rfl rfl rfl ?_
  refine wq_l 18 d63_17 rfl rfl rfl rfl ?_
  refine wq_al 19 d63_18 rfl rfl rfl (vp_in_iff.mpr (by rw [ei]; omega)) ?_
  refine wq_k 20 1 d63_19 (by decide) rfl ?_
  refine wq_mx 23 d63_20 rfl (Nat.le_of_ble_eq_true rfl) rfl ?_
  refine wq_a 24 d63_23 rfl rfl ?_
  refine wq_g 31 d63_24 (by decide) ?_
  refine wq_ri d63_31 (rfl) ?_
  rw [e1, e4, if_neg (by rw [i_lt, eg]; show ¬ (rl_z l i : Int) < 1; omega), nI_add]
  exact hQ
theorem ck63n {d : Nat} {σ : pm_S} {Q : Option Value → pm_S → Prop} {l : List pg_N} (h : ct_Z l σ) (hQ : Q (some (.int (nI l.length))) σ) : pm_call pm_Y0 (d + 1) 63 [.ref 3, .int (-1)] σ Q := by
  have e5 := h.2.2.1
  refine wq_m m63 (Nat.le_of_ble_eq_true rfl) (by decide) rfl ?_
  refine wq_l 1 d63_0 rfl rfl rfl rfl ?_
  refine wq_b 27 4 d63_1 rfl (by decide) rfl (fun c1 => ?_) (fun c1 => absurd (by decide) c1)
  refine wq_l 28 d63_27 rfl rfl rfl rfl ?_
  refine wq_gi (ci := 3) (j := 8) 31 d63_28 rfl rfl rfl rfl ?_
  refine wq_ri d63_31 (rfl) ?_
  rw [e5]; exact hQ
/-! what each part looks at -/
theorem ct_x {l : List pg_N} {nx : Nat} {A : rl_A} {σ τ : pm_S} (h : ct_D l nx A σ) (e : ∀ q, 23 ≤ q → q ≤ 26 → τ.2.2 q = σ.2.2 q) : ct_D l nx A τ := fun i hi => by
  rw [e 23 (by omega) (by omega), e 24 (by omega) (by omega), e 25 (by omega) (by omega), e 26 (by omega) (by omega)]
  exact h i hi
theorem cb_ax {l : List pg_N} {b : Nat} {y : rl_B} {σ τ : pm_S} (h : cb_at l σ b y) (e : ∀ q, 27 ≤ q → q ≤ 33 → τ.2.2 q = σ.2.2 q) : cb_at l τ b y := by
  unfold cb_at at *
  rw [e 28 (by omega) (by omega), e 29 (by omega) (by omega), e 30 (by omega) (by omega), e 31 (by omega) (by omega), e 32 (by omega) (by omega), e 33 (by omega) (by omega)]
  exact h
theorem cb_x {l : List pg_N} {NN : Nat} {B : List rl_B} {σ τ : pm_S} (h : cb_I l NN B σ) (e : ∀ q, 27 ≤ q → q ≤ 33 → τ.2.2 q = σ.2.2 q) (e8 : τ.1 5 8 = σ.1 5 8) (e10 : τ.1 5 10 = σ.1 5 10) : cb_I l NN B τ := by
  obtain ⟨h1, h2, h3, h4, h5, h6⟩ := h
  refine ⟨h1, e8.trans h2, e10.trans h3, fun s hs => ?_, fun b y hb => cb_ax (h5 b y hb) e, fun x hx => ?_⟩
  · rw [e 28 (by omega) (by omega), e 29 (by omega) (by omega)]; exact h4 s hs
  · rw [e 27 (by omega) (by omega)]; exact h6 x hx
theorem cv_ax {i : Nat} {v : rl_V} {σ τ : pm_S} (h : cv_at σ i v) (e : ∀ q, 34 ≤ q → q ≤ 41 → τ.2.2 q = σ.2.2 q) : cv_at τ i v := by
  unfold cv_at at *
  rw [e 37 (by omega) (by omega), e 38 (by omega) (by omega), e 39 (by omega) (by omega), e 40 (by omega) (by omega), e 41 (by omega) (by omega)]
  exact h
theorem cv_x {NN : Nat} {F : List (Nat × rl_V)} {σ τ : pm_S} (h : cv_I NN F σ) (e : ∀ q, 34 ≤ q → q ≤ 41 → τ.2.2 q = σ.2.2 q) (e8 : τ.1 6 8 = σ.1 6 8) : cv_I NN F τ := by
  obtain ⟨h1, h2, h3, h4⟩ := h
  refine ⟨h1, e8.trans h2, fun i o v hv => ?_, fun x hx => ?_⟩
  · obtain ⟨a, b, c⟩ := h3 i o v hv
    refine ⟨?_, cv_ax b e, ?_⟩
    · rw [e 36 (by omega) (by omega)]; exact a
    · rw [e 35 (by omega) (by omega)]; exact c
  · rw [e 34 (by omega) (by omega)]; exact h4 x hx
theorem cp_x {B : List rl_B} {σ τ : pm_S} (h : cp_I B σ) (e : τ.2.2 42 = σ.2.2 42) : cp_I B τ := fun c hc => by
  rw [e]; exact h c hc
theorem cr_D {l : List pg_N} {NN nx nx' : Nat} {σ0 σ : pm_S} {A A' : rl_A} {k : Nat} {f : Nat → Int32} (h : cr_I l NN σ0 σ nx A) (hk : 23 ≤ k ∧ k ≤ 26) (hA : A'.1 = A.1) (hD : ct_D l nx' A' (pm_pr σ k f)) : cr_I l NN σ0 (pm_pr σ k f) nx' A' := by
  obtain ⟨h0, h1, h2, h3, h4, h5, h6⟩ := h
  refine ⟨h0, h1, cc_pr h2 (by omega), hD, ?_, ?_, ?_⟩
  · rw [hA]; exact cb_x h4 (fun q _ _ => pm_rne (by omega)) rfl rfl
  · rw [hA]; exact cv_x h5 (fun q _ _ => pm_rne (by omega)) rfl
  · rw [hA]; exact cp_x h6 (pm_rne (by omega))
theorem pm_req {σ : pm_S} {k : Nat} {f : Nat → Int32} : (pm_pr σ k f).2.2 k = f := by simp [pm_pr]
theorem ck70 {d : Nat} {σ0 σ : pm_S} {Q : Option Value → pm_S → Prop} {l : List pg_N} {NN nx i : Nat} {A : rl_A} {x : Int32} (h : cr_I l NN σ0 σ nx A) (hi : i < l.length) (hQ : ∀ σ', cr_I l NN σ0 σ' nx (rl_ty A i x) → Q none σ') : pm_call pm_Y0 (d + 1) 70 [.ref 3, .int (nI i), .int x] σ Q := by
  have hS := cr_S h
  obtain ⟨e1, e2, e3⟩ := ct_in hS hi
  have hl := hS.1
  have e5 := hS.2.2.1
  have ei := nI_toInt (n := i) (by omega)
  have el := nI_toInt (n := l.length) (by omega)
  refine wq_m m70 (Nat.le_of_ble_eq_true rfl) (by decide) rfl ?_
  refine wq_l 1 d70_0 rfl rfl rfl rfl ?_
  refine wq_b 19 4 d70_1 rfl (by decide) rfl (fun c1 => absurd c1 (by rw [i_lt, ei]; show ¬ (i : Int) < 0; omega)) (fun c1 => ?_)
  refine wq_l 5 d70_4 rfl rfl rfl rfl ?_
  refine wq_l 6 d70_5 rfl rfl rfl rfl ?_
  refine wq_gi (ci := 3) (j := 8) 9 d70_6 rfl rfl rfl rfl ?_
  refine wq_b 19 12 d70_9 rfl (by decide) rfl (fun c9 => absurd c9 (by rw [e5, i_le, ei, el]; omega)) (fun c9 => ?_)
  refine wq_l 13 d70_12 rfl rfl rfl rfl ?_
  refine wq_gr (ci := 3) (j := 5) (q := 24) 16 d70_13 rfl rfl rfl rfl ?_
  refine wq_l 17 d70_16 rfl rfl rfl rfl ?_
  refine wq_l 18 d70_17 rfl rfl rfl rfl ?_
  refine wq_as 19 d70_18 rfl rfl rfl (vp_in_iff.mpr (by rw [ei]; omega)) ?_
  refine wq_rv d70_19 ?_
  rw [e1]
  refine hQ _ (cr_D h (by decide) rfl (fun j hj => ?_))
  obtain ⟨a1, a2, a3, a4⟩ := h.2.2.2.1 j hj
  refine ⟨fun hjn => by rw [pm_rne (by decide)]; exact a1 hjn, ?_, by rw [pm_rne (by decide)]; exact a3, by rw [pm_rne (by decide)]; exact a4⟩
  rw [pm_req, upd_if]
  unfold rl_ty rl_set
  by_cases q : j = i
  · rw [if_pos q]; exact (if_pos q).symm
  · rw [if_neg q, a2]; exact (if_neg q).symm
theorem ck67 {d : Nat} {σ0 σ : pm_S} {Q : Option Value → pm_S → Prop} {l : List pg_N} {NN nx i : Nat} {A : rl_A} {x : Int32} (h : cr_I l NN σ0 σ nx A) (hi : i < l.length) (hQ : ∀ σ', cr_I l NN σ0 σ' nx (rl_ce A i x) → Q none σ') : pm_call pm_Y0 (d + 1) 67 [.ref 3, .int (nI i), .int x] σ Q := by
  have hS := cr_S h
  obtain ⟨e1, e2, e3⟩ := ct_in hS hi
  have hl := hS.1
  have e5 := hS.2.2.1
  have ei := nI_toInt (n := i) (by omega)
  have el := nI_toInt (n := l.length) (by omega)
  refine wq_m m67 (Nat.le_of_ble_eq_true rfl) (by decide) rfl ?_
  refine wq_l 1 d67_0 rfl rfl rfl rfl ?_
  refine wq_b 19 4 d67_1 rfl (by decide) rfl (fun c1 => absurd c1 (by rw [i_lt, ei]; show ¬ (i : Int) < 0; omega)) (fun c1 => ?_)
  refine wq_l 5 d67_4 rfl rfl rfl rfl ?_
  refine wq_l 6 d67_5 rfl rfl rfl rfl ?_
  refine wq_gi (ci := 3) (j := 8) 9 d67_6 rfl rfl rfl rfl ?_
  refine wq_b 19 12 d67_9 rfl (by decide) rfl (fun c9 => absurd c9 (by rw [e5, i_le, ei, el]; omega)) (fun c9 => ?_)
  refine wq_l 13 d67_12 rfl rfl rfl rfl ?_
  refine wq_gr (ci := 3) (j := 6) (q := 25) 16 d67_13 rfl rfl rfl rfl ?_
  refine wq_l 17 d67_16 rfl rfl rfl rfl ?_
  refine wq_l 18 d67_17 rfl rfl rfl rfl ?_
  refine wq_as 19 d67_18 rfl rfl rfl (vp_in_iff.mpr (by rw [ei]; omega)) ?_
  refine wq_rv d67_19 ?_
  rw [e1]
  refine hQ _ (cr_D h (by decide) rfl (fun j hj => ?_))
  obtain ⟨a1, a2, a3, a4⟩ := h.2.2.2.1 j hj
  refine ⟨fun hjn => by rw [pm_rne (by decide)]; exact a1 hjn, by rw [pm_rne (by decide)]; exact a2, ?_, by rw [pm_rne (by decide)]; exact a4⟩
  rw [pm_req, upd_if]
  unfold rl_ce rl_set
  by_cases q : j = i
  · rw [if_pos q]; exact (if_pos q).symm
  · rw [if_neg q, a3]; exact (if_neg q).symm
theorem ck68 {d : Nat} {σ0 σ : pm_S} {Q : Option Value → pm_S → Prop} {l : List pg_N} {NN nx i : Nat} {A : rl_A} {x : Int32} (h : cr_I l NN σ0 σ nx A) (hi : i < l.length) (hQ : ∀ σ', cr_I l NN σ0 σ' nx (rl_me A i x) → Q none σ') : pm_call pm_Y0 (d + 1) 68 [.ref 3, .int (nI i), .int x] σ Q := by
  have hS := cr_S h
  obtain ⟨e1, e2, e3⟩ := ct_in hS hi
  have hl := hS.1
  have e5 := hS.2.2.1
  have ei := nI_toInt (n := i) (by omega)
  have el := nI_toInt (n := l.length) (by omega)
  refine wq_m m68 (Nat.le_of_ble_eq_true rfl) (by decide) rfl ?_
  refine wq_l 1 d68_0 rfl rfl rfl rfl ?_
  refine wq_b 19 4 d68_1 rfl (by decide) rfl (fun c1 => absurd c1 (by rw [i_lt, ei]; show ¬ (i : Int) < 0; omega)) (fun c1 => ?_)
  refine wq_l 5 d68_4 rfl rfl rfl rfl ?_
  refine wq_l 6 d68_5 rfl rfl rfl rfl ?_
  refine wq_gi (ci := 3) (j := 8) 9 d68_6 rfl rfl rfl rfl ?_
  refine wq_b 19 12 d68_9 rfl (by decide) rfl (fun c9 => absurd c9 (by rw [e5, i_le, ei, el]; omega)) (fun c9 => ?_)
  refine wq_l 13 d68_12 rfl rfl rfl rfl ?_
  refine wq_gr (ci := 3) (j := 7) (q := 26) 16 d68_13 rfl rfl rfl rfl ?_
  refine wq_l 17 d68_16 rfl rfl rfl rfl ?_
  refine wq_l 18 d68_17 rfl rfl rfl rfl ?_
  refine wq_as 19 d68_18 rfl rfl rfl (vp_in_iff.mpr (by rw [ei]; omega)) ?_
  refine wq_rv d68_19 ?_
  rw [e1]
  refine hQ _ (cr_D h (by decide) rfl (fun j hj => ?_))
  obtain ⟨a1, a2, a3, a4⟩ := h.2.2.2.1 j hj
  refine ⟨fun hjn => by rw [pm_rne (by decide)]; exact a1 hjn, by rw [pm_rne (by decide)]; exact a2, by rw [pm_rne (by decide)]; exact a3, ?_⟩
  rw [pm_req, upd_if]
  unfold rl_me rl_set
  by_cases q : j = i
  · rw [if_pos q]; exact (if_pos q).symm
  · rw [if_neg q, a4]; exact (if_neg q).symm
theorem ck64 {d : Nat} {σ0 σ : pm_S} {Q : Option Value → pm_S → Prop} {l : List pg_N} {NN nx i : Nat} {A : rl_A} {x : Int32} (h : cr_I l NN σ0 σ nx A) (hi : i < l.length) (hn : i = nx) (hx : x = hp_oi (rl_up l i).head?) (hQ : ∀ σ', cr_I l NN σ0 σ' (nx + 1) (A) → Q none σ') : pm_call pm_Y0 (d + 1) 64 [.ref 3, .int (nI i), .int x] σ Q := by
  have hS := cr_S h
  obtain ⟨e1, e2, e3⟩ := ct_in hS hi
  have hl := hS.1
  have e5 := hS.2.2.1
  have ei := nI_toInt (n := i) (by omega)
  have el := nI_toInt (n := l.length) (by omega)
  refine wq_m m64 (Nat.le_of_ble_eq_true rfl) (by decide) rfl ?_
  refine wq_l 1 d64_0 rfl rfl rfl rfl ?_
  refine wq_b 19 4 d64_1 rfl (by decide) rfl (fun c1 => absurd c1 (by rw [i_lt, ei]; show ¬ (i : Int) < 0; omega)) (fun c1 => ?_)
  refine wq_l 5 d64_4 rfl rfl rfl rfl ?_
  refine wq_l 6 d64_5 rfl rfl rfl rfl ?_
  refine wq_gi (ci := 3) (j := 8) 9 d64_6 rfl rfl rfl rfl ?_
  refine wq_b 19 12 d64_9 rfl (by decide) rfl (fun c9 => absurd c9 (by rw [e5, i_le, ei, el]; omega)) (fun c9 => ?_)
  refine wq_l 13 d64_12 rfl rfl rfl rfl ?_
  refine wq_gr (ci := 3) (j := 4) (q := 23) 16 d64_13 rfl rfl rfl rfl ?_
  refine wq_l 17 d64_16 rfl rfl rfl rfl ?_
  refine wq_l 18 d64_17 rfl rfl rfl rfl ?_
  refine wq_as 19 d64_18 rfl rfl rfl (vp_in_iff.mpr (by rw [ei]; omega)) ?_
  refine wq_rv d64_19 ?_
  rw [e1]
  refine hQ _ (cr_D h (by decide) rfl (fun j hj => ?_))
  obtain ⟨a1, a2, a3, a4⟩ := h.2.2.2.1 j hj
  refine ⟨fun hjn => ?_, by rw [pm_rne (by decide)]; exact a2, by rw [pm_rne (by decide)]; exact a3, by rw [pm_rne (by decide)]; exact a4⟩
  rw [pm_req, upd_if]
  by_cases q : j = i
  · rw [if_pos q, q]; exact hx
  · rw [if_neg q]; exact a1 (by omega)
