theorem d238_0 : decode prog_14_method_32_code 0 = .ok (.aload_n 0, 1) := by decide +kernel
theorem d238_1 : decode prog_14_method_32_code 1 = .ok (.sipush 200, 3) := by decide +kernel
theorem d238_4 : decode prog_14_method_32_code 4 = .ok (.iload_n 1, 1) := by decide +kernel
theorem d238_5 : decode prog_14_method_32_code 5 = .ok (.iadd, 1) := by decide +kernel
theorem d238_6 : decode prog_14_method_32_code 6 = .ok (.invokevirtual 331, 3) := by decide +kernel
theorem d238_9 : decode prog_14_method_32_code 9 = .ok (.ireturn, 1) := by decide +kernel
theorem m238 : pm_m 238 = some (⟨"TypeRulesModel", "isSign", "(I)Z"⟩, prog_14_method_32_code, 2, (some FieldType.boolean), 10, 1, 11) := rfl
/-! THE REFERENCE'S PARSER: the relation and its moves -/
abbrev rp_H := Nat × (Nat → List Nat)
def rp_n (t : Nat → Nat) (M n : Nat) : Prop := M ≤ 8192 ∧ pt_n t M n
def rp_nk (k : Nat) : Bool := [1, 2, 3, 6, 10, 13, 14, 19, 32, 33, 34].contains k
def rp_V (t : Nat → Nat) (M n k : Nat) (r v : Int32) : Prop := if rp_nk k = true then ∃ j, j < n ∧ lx_k t M lx_ns j = 41 ∧ v = nI (lx_v t M lx_ns j) ∧ r = nI (rq_v t M j) else r = v
def rp_h (t : Nat → Nat) (M n : Nat) (σ : pm_S) (a : Nat) (x : pg_N) : Prop := σ.2.2 49 a = nI x.1 ∧ σ.2.2 50 a = nI x.2.1 ∧ rp_V t M n x.1 (σ.2.2 51 a) x.2.2.1
def rp_f (h : rp_H) (x : Nat) : Prop := ∀ a, a < h.1 → x ∉ h.2 a
def rp_S (t : Nat → Nat) (M n : Nat) (σ : pm_S) (c : pg_C) (h : rp_H) (s : Nat) : Prop := rf_T σ t M n c ∧ rh_K σ h.1 h.2 ∧ h.1 ≤ 2 * c.1 + s
def rp_D (σ σ' : pm_S) : Prop := (∀ a b, (a = 10 ∧ ((2 ≤ b ∧ b ≤ 9) ∨ b = 15 ∨ b = 27 ∨ b = 29 ∨ b = 30)) ∨ σ'.1 a b = σ.1 a b) ∧ (∀ k, k = 47 ∨ σ'.2.1 k = σ.2.1 k) ∧ ∀ k, (44 ≤ k ∧ k ≤ 60) ∨ σ'.2.2 k = σ.2.2 k
theorem rp_Dr {σ : pm_S} : rp_D σ σ := ⟨fun _ _ => Or.inr rfl, fun _ => Or.inr rfl, fun _ => Or.inr rfl⟩
theorem rp_Dt {σ σ1 σ2 : pm_S} (h : rp_D σ σ1) (h2 : rp_D σ1 σ2) : rp_D σ σ2 := by
  refine ⟨fun a b => ?_, fun k => ?_, fun k => ?_⟩
  · rcases h2.1 a b with z | z
    · exact Or.inl z
    · rcases h.1 a b with y | y
      · exact Or.inl y
      · exact Or.inr (z.trans y)
  · rcases h2.2.1 k with z | z
    · exact Or.inl z
    · rcases h.2.1 k with y | y
      · exact Or.inl y
      · exact Or.inr (z.trans y)
  · rcases h2.2.2 k with z | z
    · exact Or.inl z
    · rcases h.2.2 k with y | y
      · exact Or.inl y
      · exact Or.inr (z.trans y)
theorem rp_Df {σ σ' : pm_S} (h : rf_F σ σ') : rp_D σ σ' := ⟨fun a b => by rcases h.1 a b with z | z; (left; omega); exact Or.inr z, h.2.1, fun k => by rcases h.2.2 k with z | z; (left; omega); exact Or.inr z⟩
def rp_E (t : Nat → Nat) (M n : Nat) (σ : pm_S) (h : rp_H) (σ' : pm_S) (h' : rp_H) (to : Nat) (l : List pg_N) : Prop :=
  rp_D σ σ' ∧ h.1 ≤ h'.1 ∧ (σ'.1 10 6 = 0 → σ.1 10 6 = 0) ∧ (∀ x, x < h.1 → rp_f h x → rp_f h' x) ∧
  (σ'.1 10 6 = 0 → h'.1 = h.1 + l.length ∧ ∃ L : List hp_N, L.map (·.1) = l ∧ hp_E h.1 h.2 (rp_h t M n σ) h'.1 h'.2 (rp_h t M n σ') to L)
theorem rp_Er {t : Nat → Nat} {M n : Nat} {σ : pm_S} {h : rp_H} {to : Nat} : rp_E t M n σ h σ h to [] := ⟨rp_Dr, Nat.le_refl _, fun z => z, fun _ _ z => z, fun _ => ⟨rfl, [], rfl, hp_Er⟩⟩
theorem rp_Et {t : Nat → Nat} {M n : Nat} {σ σ1 σ2 : pm_S} {h h1 h2 : rp_H} {to : Nat} {l l2 : List pg_N} (ht : to < h.1) (e1 : rp_E t M n σ h σ1 h1 to l) (e2 : rp_E t M n σ1 h1 σ2 h2 to l2) : rp_E t M n σ h σ2 h2 to (l ++ l2) := by
  obtain ⟨a1, a2, a3, a4, a5⟩ := e1
  obtain ⟨b1, b2, b3, b4, b5⟩ := e2
  refine ⟨rp_Dt a1 b1, Nat.le_trans a2 b2, fun z => a3 (b3 z), fun x hx hf => b4 x (by omega) (a4 x hx hf), fun z => ?_⟩
  obtain ⟨c1, L1, c2, c3⟩ := a5 (b3 z)
  obtain ⟨d1, L2, d2, d3⟩ := b5 z
  exact ⟨by rw [List.length_append]; omega, L1 ++ L2, by rw [List.map_append, c2, d2], hp_Et ht c3 d3⟩
/-- a step that leaves the heap alone -/
def rp_K (σ σ' : pm_S) : Prop := rf_F σ σ' ∧ (σ'.1 10 6 = 0 → σ.1 10 6 = 0)
theorem rp_Kr {σ : pm_S} : rp_K σ σ := ⟨⟨fun _ _ => Or.inr rfl, fun _ => Or.inr rfl, fun _ => Or.inr rfl⟩, fun z => z⟩
theorem rp_Kt {σ σ1 σ2 : pm_S} (h : rp_K σ σ1) (h2 : rp_K σ1 σ2) : rp_K σ σ2 := ⟨rf_Ft h.1 h2.1, fun z => h.2 (h2.2 z)⟩
theorem rp_Kh {t : Nat → Nat} {M n : Nat} {σ σ' : pm_S} {a : Nat} {x : pg_N} (k : rp_K σ σ') (hx : rp_h t M n σ a x) : rp_h t M n σ' a x := by
  unfold rp_h at *
  rw [(k.1.2.2 49).resolve_left (by omega), (k.1.2.2 50).resolve_left (by omega), (k.1.2.2 51).resolve_left (by omega)]
  exact hx
theorem rp_Ek {t : Nat → Nat} {M n : Nat} {σ σ' : pm_S} {h : rp_H} {to : Nat} (k : rp_K σ σ') : rp_E t M n σ h σ' h to [] :=
  ⟨rp_Df k.1, Nat.le_refl _, k.2, fun _ _ z => z, fun _ => ⟨rfl, [], rfl, Nat.le_refl _, fun _ _ _ => rfl, (List.append_nil _).symm, fun _ _ _ hx => rp_Kh k hx, trivial, fun x hx => absurd hx List.not_mem_nil, fun j x h => (by simp at h)⟩⟩
theorem rh_Kk {σ σ' : pm_S} {nn : Nat} {K : Nat → List Nat} (k : rf_F σ σ') (h : rh_K σ nn K) : rh_K σ' nn K := by
  obtain ⟨h1, h2, h3, h4⟩ := h
  have e : ∀ j, 49 ≤ j → σ'.2.2 j = σ.2.2 j := fun j hj => (k.2.2 j).resolve_left (by omega)
  refine ⟨((k.1 10 15).resolve_left (by omega)).trans h1, h2, ?_, fun a ha => ?_⟩
  · rw [e 52 (by omega), e 53 (by omega), e 54 (by omega), e 55 (by omega)]; exact h3
  · rw [e 56 (by omega), e 57 (by omega), e 58 (by omega)]; exact h4 a ha
theorem rp_El {t : Nat → Nat} {M n : Nat} {σ σ' : pm_S} {h h' : rp_H} {to : Nat} {l l' : List pg_N} (e : rp_E t M n σ h σ' h' to l) (hd : ¬ σ'.1 10 6 = 0) : rp_E t M n σ h σ' h' to l' := ⟨e.1, e.2.1, e.2.2.1, e.2.2.2.1, fun z => absurd z hd⟩
theorem rp_Ee {t : Nat → Nat} {M n : Nat} {σ σ' : pm_S} {h h' : rp_H} {to : Nat} {l l' : List pg_N} (e : rp_E t M n σ h σ' h' to l) (q : l = l') : rp_E t M n σ h σ' h' to l' := q ▸ e
theorem rp_Se {t : Nat → Nat} {M n : Nat} {σ : pm_S} {c c' : pg_C} {h : rp_H} {s s' : Nat} (e : rp_S t M n σ c h s) (q : c = c') (hs : s ≤ s') : rp_S t M n σ c' h s' := q ▸ ⟨e.1, e.2.1, Nat.le_trans e.2.2 (by omega)⟩
theorem rp_Sd {t : Nat → Nat} {M n : Nat} {σ : pm_S} {c c' : pg_C} {h : rp_H} {s s' : Nat} (e : rp_S t M n σ c h s) (hd : pg_dead (pt_T t M n) c) (q : pg_deq c c') (hs : s ≤ s') : rp_S t M n σ c' h s' := ⟨rf_ds e.1 hd q, e.2.1, by have := e.2.2; rw [q.1]; omega⟩
theorem rp_lv {t : Nat → Nat} {M n : Nat} {σ : pm_S} {c : pg_C} {h : rp_H} {s : Nat} (e : rp_S t M n σ c h s) (z : σ.1 10 6 = 0) : pg_live (pt_T t M n) c := by
  apply pg_ld.mp
  intro y
  exact (e.1.2.2.2 y).2.1 z
theorem rp_dd {t : Nat → Nat} {M n : Nat} {σ : pm_S} {c : pg_C} {h : rp_H} {s : Nat} (e : rp_S t M n σ c h s) (z : ¬ σ.1 10 6 = 0) : pg_dead (pt_T t M n) c := by
  apply Classical.byContradiction
  intro y
  exact z (e.1.2.2.1 (pg_ld.mp y)).1
theorem rp_l0 {t : Nat → Nat} {M n : Nat} {σ : pm_S} {c : pg_C} {h : rp_H} {s : Nat} (e : rp_S t M n σ c h s) (z : pg_live (pt_T t M n) c) : σ.1 10 6 = 0 := (e.1.2.2.1 z).1
theorem rp_d0 {t : Nat → Nat} {M n : Nat} {σ : pm_S} {c : pg_C} {h : rp_H} {s : Nat} (e : rp_S t M n σ c h s) (z : pg_dead (pt_T t M n) c) : ¬ σ.1 10 6 = 0 := (e.1.2.2.2 z).2.1
theorem rp_kk {t : Nat → Nat} {M n : Nat} {σ : pm_S} {c : pg_C} {h : rp_H} {s : Nat} (e : rp_S t M n σ c h s) (z : pg_live (pt_T t M n) c) : pg_k (pt_T t M n) c = lx_k t M lx_ns c.1 := (if_pos z.1).trans (if_pos e.1.2.1)
theorem rp_tk {t : Nat → Nat} {M n : Nat} {σ : pm_S} {c : pg_C} {h : rp_H} {s : Nat} (e : rp_S t M n σ c h s) (z : σ.1 10 6 = 0) : σ.1 10 3 = rx_c (pg_k (pt_T t M n) c) := by
  rw [rp_kk e (rp_lv e z)]
  exact (e.1.2.2.1 (rp_lv e z)).2.2.1
theorem rp_pl {t : Nat → Nat} {M n : Nat} {σ : pm_S} {c : pg_C} {h : rp_H} {s : Nat} (e : rp_S t M n σ c h s) (z : σ.1 10 6 = 0) : σ.1 10 4 = nI (pg_pl (pt_T t M n) c) := (e.1.2.2.1 (rp_lv e z)).2.2.2.1
theorem rp_nm2 {t : Nat → Nat} {M n k : Nat} {σ : pm_S} {c : pg_C} {h : rp_H} {s : Nat} (hk : rp_nk k = true) (e : rp_S t M n σ c h s) (f : pg_is (pt_T t M n) 41 c = true) : rp_V t M n k (σ.1 10 5) (pg_v (pt_T t M n) c) := by
  have hl := (pg_isl f (by decide)).1
  have hkk := rp_kk e hl
  rw [pg_isk f] at hkk
  unfold rp_V
  rw [if_pos hk]
  exact ⟨c.1, e.1.2.1, hkk.symm, rfl, (e.1.2.2.1 hl).2.2.2.2.1⟩
theorem rp_ex {t : Nat → Nat} {M n k : Nat} {σ' : pm_S} {c : pg_C} {h' : rp_H} {s' : Nat} (hk : k ≠ 46 ∧ k ≠ 45) (e' : rp_S t M n σ' (pg_exp (pt_T t M n) k c) h' s') (z : σ'.1 10 6 = 0) : pg_is (pt_T t M n) k c = true := by
  have := (pg_exl hk (rp_lv e' z))
  unfold pg_is pg_k
  rw [if_pos this.1.1, this.2.1]
  exact beq_self_eq_true k
theorem rp_nm {t : Nat → Nat} {M n k : Nat} {σ σ' : pm_S} {c : pg_C} {h h' : rp_H} {s s' : Nat} (hk : rp_nk k = true) (e : rp_S t M n σ c h s) (e' : rp_S t M n σ' (pg_exp (pt_T t M n) 41 c) h' s') (z : σ'.1 10 6 = 0) : rp_V t M n k (σ.1 10 5) (pg_v (pt_T t M n) c) := rp_nm2 hk e (rp_ex (by decide) e' z)
theorem rp_nu {t : Nat → Nat} {M n k j : Nat} {σ σ' : pm_S} {c : pg_C} {h h' : rp_H} {s s' : Nat} (hj : j = 42 ∨ j = 43) (hk : rp_nk k = false) (e : rp_S t M n σ c h s) (e' : rp_S t M n σ' (pg_exp (pt_T t M n) j c) h' s') (z : σ'.1 10 6 = 0) : σ.1 10 5 = pg_v (pt_T t M n) c ∧ rp_V t M n k (σ.1 10 5) (pg_v (pt_T t M n) c) := by
  have f := rp_ex (by omega) e' z
  have hl := (pg_isl f (by omega)).1
  have hkk := rp_kk e hl
  rw [pg_isk f] at hkk
  have e1 := (e.1.2.2.1 hl).2.2.2.2.1
  have e2 : rq_v t M c.1 = lx_v t M lx_ns c.1 := by
    unfold rq_v
    rw [if_neg (by omega), if_pos (by omega)]
  rw [e2] at e1
  have e3 : σ.1 10 5 = pg_v (pt_T t M n) c := e1
  refine ⟨e3, ?_⟩
  unfold rp_V
  rw [if_neg (by rw [hk]; decide)]
  exact e3
theorem rp_V0 {t : Nat → Nat} {M n k : Nat} {v : Int32} (hk : rp_nk k = false) : rp_V t M n k v v := by
  unfold rp_V
  rw [if_neg (by rw [hk]; decide)]
/-- moves -/
theorem rp_is {d : Nat} {σ : pm_S} {Q : Option Value → pm_S → Prop} {t : Nat → Nat} {M n : Nat} {c : pg_C} {h : rp_H} {s k : Nat} {x : Int32} (hN : rp_n t M n) (hx : x = rx_c k) (hk : k ≤ 68 ∧ k ≠ 45 ∧ k ≠ 46) (hS : rp_S t M n σ c h s) (hQ : Q (some (.int (b2 (pg_is (pt_T t M n) k c)))) σ) : pm_call pm_Y0 (d + 1) 224 [.ref 10, .int x] σ Q := by
  rw [hx]
  exact rf_is hN.1 hN.2 hk hS.1 hQ
theorem rp_sg {d : Nat} {σ : pm_S} {Q : Option Value → pm_S → Prop} {t : Nat → Nat} {M n : Nat} {c : pg_C} {h : rp_H} {s k : Nat} {x : Int32} (hN : rp_n t M n) (hx : 200 + x = rx_c k) (hk : k ≤ 68 ∧ k ≠ 45 ∧ k ≠ 46) (hS : rp_S t M n σ c h s) (hQ : Q (some (.int (b2 (pg_is (pt_T t M n) k c)))) σ) : pm_call pm_Y0 (d + 2) 238 [.ref 10, .int x] σ Q := by
  refine wq_m m238 (Nat.le_of_ble_eq_true rfl) (by decide) rfl ?_
  refine wq_l 1 d238_0 rfl rfl rfl rfl ?_
  refine wq_k 4 200 d238_1 (by decide) rfl ?_
  refine wq_l 5 d238_4 rfl rfl rfl rfl ?_
  refine wq_a 6 d238_5 rfl rfl ?_
  refine wq_v 9 [_] d238_6 rfl rfl m224 rfl rfl (Nat.le_of_ble_eq_true rfl) rfl (rp_is hN hx hk hS ?_)
  refine wq_ri d238_9 (b2_nar _) ?_
  exact hQ
theorem rp_kp {t : Nat → Nat} {M n : Nat} {σ σ' : pm_S} {c c' : pg_C} {h : rp_H} {s : Nat} (hS : rp_S t M n σ c h s) (hF : rf_F σ σ') (hT : rf_T σ' t M n c') (hc : c.1 ≤ c'.1) (hb : pg_live (pt_T t M n) c' → pg_live (pt_T t M n) c) : rp_S t M n σ' c' h s ∧ rp_K σ σ' := by
  have e : rp_S t M n σ' c' h s := ⟨hT, rh_Kk hF hS.2.1, by have := hS.2.2; omega⟩
  exact ⟨e, hF, fun z => rp_l0 hS (hb (rp_lv e z))⟩
theorem rp_go {d : Nat} {σ : pm_S} {Q : Option Value → pm_S → Prop} {t : Nat → Nat} {M n : Nat} {c : pg_C} {h : rp_H} {s : Nat} (hN : rp_n t M n) (hl : pg_live (pt_T t M n) c ∧ (pt_T t M n).1 c.1 ≠ 44) (hS : rp_S t M n σ c h s) (hQ : ∀ σ', rp_S t M n σ' (pg_stp c) h s → rp_K σ σ' → Q none σ') : pm_call pm_Y0 (d + 6) 203 [.ref 10] σ Q := by
  have h44 : lx_k t M lx_ns c.1 ≠ 44 := fun z => hl.2 ((show (pt_T t M n).1 c.1 = lx_k t M lx_ns c.1 from if_pos hS.1.2.1).trans z)
  refine rf_go hN.2 hS.1 hl.1 h44 (fun σ' hF hT => ?_)
  rw [← pg_stpl (T := pt_T t M n) hl.1.1] at hT
  obtain ⟨a, b⟩ := rp_kp hS (rf_Fq hF) hT pg_istp (fun _ => hl.1)
  exact hQ σ' a b
theorem rp_want {d : Nat} {σ : pm_S} {Q : Option Value → pm_S → Prop} {t : Nat → Nat} {M n : Nat} {c : pg_C} {h : rp_H} {s : Nat} {k : Nat} {x : Int32} (hN : rp_n t M n) (hx : x = rx_c k) (hk : k ≤ 68 ∧ k ≠ 44 ∧ k ≠ 45 ∧ k ≠ 46) (hS : rp_S t M n σ c h s) (hQ : ∀ σ', rp_S t M n σ' (pg_exp (pt_T t M n) k c) h s → rp_K σ σ' → Q none σ') : pm_call pm_Y0 (d + 7) 229 [.ref 10, .int x] σ Q := by
  rw [hx]
  refine rf_want hN.1 hN.2 hk hS.1 (fun σ' hF hT => ?_)
  obtain ⟨a, b⟩ := rp_kp hS (rf_Fq hF) hT pg_iexp (fun z => (pg_exl ⟨hk.2.2.2, hk.2.2.1⟩ z).1)
  exact hQ σ' a b
theorem rp_take {d : Nat} {σ : pm_S} {Q : Option Value → pm_S → Prop} {t : Nat → Nat} {M n : Nat} {c : pg_C} {h : rp_H} {s : Nat} {k : Nat} {x : Int32} (hN : rp_n t M n) (hx : x = rx_c k) (hk : k ≤ 68 ∧ k ≠ 44 ∧ k ≠ 45 ∧ k ≠ 46) (hS : rp_S t M n σ c h s) (hQ : ∀ σ', rp_S t M n σ' (if pg_is (pt_T t M n) k c then pg_stp c else c) h s → rp_K σ σ' → Q (some (.int (b2 (pg_is (pt_T t M n) k c)))) σ') : pm_call pm_Y0 (d + 7) 233 [.ref 10, .int x] σ Q := by
  rw [hx]
  refine rf_take hN.1 hN.2 hk hS.1 (fun σ' hF hT => ?_)
  have hc : c.1 ≤ (if pg_is (pt_T t M n) k c then pg_stp c else c).1 := by
    split
    · exact pg_istp
    · exact Nat.le_refl _
  have hb : pg_live (pt_T t M n) (if pg_is (pt_T t M n) k c then pg_stp c else c) → pg_live (pt_T t M n) c := by
    cases f : pg_is (pt_T t M n) k c with
    | true => intro _; exact (pg_isl f ⟨hk.2.1, hk.2.2.1, hk.2.2.2⟩).1
    | false => exact fun z => z
  obtain ⟨a, b⟩ := rp_kp hS (rf_Fq hF) hT hc hb
  exact hQ σ' a b
theorem rp_ref {d : Nat} {σ : pm_S} {Q : Option Value → pm_S → Prop} {t : Nat → Nat} {M n : Nat} {c : pg_C} {h : rp_H} {s : Nat} (hN : rp_n t M n) (hS : rp_S t M n σ c h s) (hQ : ∀ σ', rp_S t M n σ' (pg_stop c) h s → rp_K σ σ' → Q none σ') : pm_call pm_Y0 (d + 2) 230 [.ref 10] σ Q := by
  refine rf_refuse hN.1 hN.2 hS.1 (fun σ' hF hT => ?_)
  obtain ⟨a, b⟩ := rp_kp hS (rf_Fq hF) hT (Nat.le_refl _) (fun z => absurd (pg_stopd (T := pt_T t M n) (c := c)) (pg_ld.mpr z))
  exact hQ σ' a b
theorem rp_deep {d : Nat} {σ : pm_S} {Q : Option Value → pm_S → Prop} {t : Nat → Nat} {M n : Nat} {c : pg_C} {h : rp_H} {s : Nat} (hN : rp_n t M n) (hl : pg_live (pt_T t M n) c ∧ (pt_T t M n).1 c.1 ≠ 44) (hS : rp_S t M n σ c h s) (hQ : ∀ σ', rp_S t M n σ' (pg_opn c) h s → rp_K σ σ' → Q none σ') : pm_call pm_Y0 (d + 7) 248 [.ref 10] σ Q := by
  have h44 : lx_k t M lx_ns c.1 ≠ 44 := fun z => hl.2 ((show (pt_T t M n).1 c.1 = lx_k t M lx_ns c.1 from if_pos hS.1.2.1).trans z)
  refine rf_deepen hN.1 hN.2 hS.1 hl.1 h44 (fun σ' hF hT => ?_)
  obtain ⟨a, b⟩ := rp_kp hS hF hT pg_iopn (fun _ => hl.1)
  exact hQ σ' a b
theorem rp_wn {d : Nat} {σ : pm_S} {Q : Option Value → pm_S → Prop} {t : Nat → Nat} {M n : Nat} {c : pg_C} {h : rp_H} {s : Nat} (hN : rp_n t M n) (hS : rp_S t M n σ c h s) (hQ : ∀ σ', rp_S t M n σ' (pg_exp (pt_T t M n) 41 c) h s → rp_K σ σ' → Q (some (.int (σ.1 10 5))) σ') : pm_call pm_Y0 (d + 8) 228 [.ref 10] σ Q := by
  refine wq_m m228 (Nat.le_of_ble_eq_true rfl) (by decide) rfl ?_
  refine wq_l 1 d228_0 rfl rfl rfl rfl ?_
  refine wq_gi (ci := 10) (j := 5) 4 d228_1 rfl rfl rfl rfl ?_
  refine wq_s 5 d228_4 rfl rfl (Nat.le_of_ble_eq_true rfl) rfl rfl ?_
  refine wq_l 6 d228_5 rfl rfl rfl rfl ?_
  refine wq_k 7 1 d228_6 (by decide) rfl ?_
  refine wq_v 10 [_] d228_7 rfl rfl m229 rfl rfl (Nat.le_of_ble_eq_true rfl) rfl (rp_want (k := 41) hN (by decide) (by decide) hS (fun σ1 h1 k1 => ?_))
  refine wq_l 11 d228_10 rfl rfl rfl rfl ?_
  refine wq_ri d228_11 (rfl) ?_
  exact hQ σ1 h1 k1
