theorem d203_0 : decode prog_14_method_14_code 0 = .ok (.aload_n 0, 1) := by decide +kernel
theorem d203_1 : decode prog_14_method_14_code 1 = .ok (.invokevirtual 148, 3) := by decide +kernel
theorem d203_4 : decode prog_14_method_14_code 4 = .ok (.aload_n 0, 1) := by decide +kernel
theorem d203_5 : decode prog_14_method_14_code 5 = .ok (.getfield 135, 3) := by decide +kernel
theorem d203_8 : decode prog_14_method_14_code 8 = .ok (.ifCond .le 4, 3) := by decide +kernel
theorem d203_11 : decode prog_14_method_14_code 11 = .ok (.return_, 1) := by decide +kernel
theorem d203_12 : decode prog_14_method_14_code 12 = .ok (.aload_n 0, 1) := by decide +kernel
theorem d203_13 : decode prog_14_method_14_code 13 = .ok (.aload_n 0, 1) := by decide +kernel
theorem d203_14 : decode prog_14_method_14_code 14 = .ok (.getfield 121, 3) := by decide +kernel
theorem d203_17 : decode prog_14_method_14_code 17 = .ok (.putfield 151, 3) := by decide +kernel
theorem d203_20 : decode prog_14_method_14_code 20 = .ok (.aload_n 0, 1) := by decide +kernel
theorem d203_21 : decode prog_14_method_14_code 21 = .ok (.iconst 0, 1) := by decide +kernel
theorem d203_22 : decode prog_14_method_14_code 22 = .ok (.putfield 154, 3) := by decide +kernel
theorem d203_25 : decode prog_14_method_14_code 25 = .ok (.aload_n 0, 1) := by decide +kernel
theorem d203_26 : decode prog_14_method_14_code 26 = .ok (.iconst 0, 1) := by decide +kernel
theorem d203_27 : decode prog_14_method_14_code 27 = .ok (.invokevirtual 141, 3) := by decide +kernel
theorem d203_30 : decode prog_14_method_14_code 30 = .ok (.istore_n 1, 1) := by decide +kernel
theorem d203_31 : decode prog_14_method_14_code 31 = .ok (.iload_n 1, 1) := by decide +kernel
theorem d203_32 : decode prog_14_method_14_code 32 = .ok (.ifCond .ge 11, 3) := by decide +kernel
theorem d203_35 : decode prog_14_method_14_code 35 = .ok (.aload_n 0, 1) := by decide +kernel
theorem d203_36 : decode prog_14_method_14_code 36 = .ok (.iconst 0, 1) := by decide +kernel
theorem d203_37 : decode prog_14_method_14_code 37 = .ok (.putfield 157, 3) := by decide +kernel
theorem d203_40 : decode prog_14_method_14_code 40 = .ok (.goto 78, 3) := by decide +kernel
theorem d203_43 : decode prog_14_method_14_code 43 = .ok (.iload_n 1, 1) := by decide +kernel
theorem d203_44 : decode prog_14_method_14_code 44 = .ok (.bipush 84, 2) := by decide +kernel
theorem d203_46 : decode prog_14_method_14_code 46 = .ok (.if_icmp .eq 9, 3) := by decide +kernel
theorem d203_49 : decode prog_14_method_14_code 49 = .ok (.iload_n 1, 1) := by decide +kernel
theorem d203_50 : decode prog_14_method_14_code 50 = .ok (.bipush 116, 2) := by decide +kernel
theorem d203_52 : decode prog_14_method_14_code 52 = .ok (.if_icmp .ne 20, 3) := by decide +kernel
theorem d203_55 : decode prog_14_method_14_code 55 = .ok (.aload_n 0, 1) := by decide +kernel
theorem d203_56 : decode prog_14_method_14_code 56 = .ok (.iconst 1, 1) := by decide +kernel
theorem d203_57 : decode prog_14_method_14_code 57 = .ok (.invokevirtual 141, 3) := by decide +kernel
theorem d203_60 : decode prog_14_method_14_code 60 = .ok (.bipush 35, 2) := by decide +kernel
theorem d203_62 : decode prog_14_method_14_code 62 = .ok (.if_icmp .ne 10, 3) := by decide +kernel
theorem d203_65 : decode prog_14_method_14_code 65 = .ok (.aload_n 0, 1) := by decide +kernel
theorem d203_66 : decode prog_14_method_14_code 66 = .ok (.invokevirtual 160, 3) := by decide +kernel
theorem d203_69 : decode prog_14_method_14_code 69 = .ok (.goto 49, 3) := by decide +kernel
theorem d203_72 : decode prog_14_method_14_code 72 = .ok (.iload_n 1, 1) := by decide +kernel
theorem d203_73 : decode prog_14_method_14_code 73 = .ok (.invokestatic 128, 3) := by decide +kernel
theorem d203_76 : decode prog_14_method_14_code 76 = .ok (.ifCond .eq 10, 3) := by decide +kernel
theorem d203_79 : decode prog_14_method_14_code 79 = .ok (.aload_n 0, 1) := by decide +kernel
theorem d203_80 : decode prog_14_method_14_code 80 = .ok (.invokevirtual 163, 3) := by decide +kernel
theorem d203_83 : decode prog_14_method_14_code 83 = .ok (.goto 35, 3) := by decide +kernel
theorem d203_86 : decode prog_14_method_14_code 86 = .ok (.iload_n 1, 1) := by decide +kernel
theorem d203_87 : decode prog_14_method_14_code 87 = .ok (.invokestatic 132, 3) := by decide +kernel
theorem d203_90 : decode prog_14_method_14_code 90 = .ok (.ifCond .eq 10, 3) := by decide +kernel
theorem d203_93 : decode prog_14_method_14_code 93 = .ok (.aload_n 0, 1) := by decide +kernel
theorem d203_94 : decode prog_14_method_14_code 94 = .ok (.invokevirtual 166, 3) := by decide +kernel
theorem d203_97 : decode prog_14_method_14_code 97 = .ok (.goto 21, 3) := by decide +kernel
theorem d203_100 : decode prog_14_method_14_code 100 = .ok (.iload_n 1, 1) := by decide +kernel
theorem d203_101 : decode prog_14_method_14_code 101 = .ok (.bipush 37, 2) := by decide +kernel
theorem d203_103 : decode prog_14_method_14_code 103 = .ok (.if_icmp .ne 10, 3) := by decide +kernel
theorem d203_106 : decode prog_14_method_14_code 106 = .ok (.aload_n 0, 1) := by decide +kernel
theorem d203_107 : decode prog_14_method_14_code 107 = .ok (.invokevirtual 169, 3) := by decide +kernel
theorem d203_110 : decode prog_14_method_14_code 110 = .ok (.goto 8, 3) := by decide +kernel
theorem d203_113 : decode prog_14_method_14_code 113 = .ok (.aload_n 0, 1) := by decide +kernel
theorem d203_114 : decode prog_14_method_14_code 114 = .ok (.iload_n 1, 1) := by decide +kernel
theorem d203_115 : decode prog_14_method_14_code 115 = .ok (.invokevirtual 172, 3) := by decide +kernel
theorem d203_118 : decode prog_14_method_14_code 118 = .ok (.return_, 1) := by decide +kernel
theorem m203 : pm_m 203 = some (⟨"TypeRulesModel", "go", "()V"⟩, prog_14_method_14_code, 2, none, 10, 0, 11) := rfl
/-! GO: one token on, in the reference -/
def rq_w (t : Nat → Nat) (M j : Nat) : List Nat := nt_w t (lx_p t M lx_ns j) (lx_at t M lx_ns (j + 1)).1
def rq_h (t : Nat → Nat) (ps : List (Nat × Nat)) (w : List Nat) : Bool := ps.any (fun q => decide (rx_wd t q = w))
/-- the reference's names before token j -/
def rq_ps (t : Nat → Nat) (M : Nat) : Nat → List (Nat × Nat)
  | 0 => []
  | j + 1 => if lx_k t M lx_ns j = 41 ∧ rq_h t (rq_ps t M j) (rq_w t M j) = false then rq_ps t M j ++ [(lx_p t M lx_ns j, (lx_at t M lx_ns (j + 1)).1 - lx_p t M lx_ns j)] else rq_ps t M j
def rq_ix (t : Nat → Nat) (ps : List (Nat × Nat)) (w : List Nat) : Nat := ps.findIdx (fun q => decide (rx_wd t q = w))
def rq_v (t : Nat → Nat) (M j : Nat) : Nat := if lx_k t M lx_ns j = 41 then rq_ix t (rq_ps t M (j + 1)) (rq_w t M j) else if lx_k t M lx_ns j = 42 ∨ lx_k t M lx_ns j = 43 then lx_v t M lx_ns j else 0
def rq_F (σ σ' : pm_S) : Prop := (∀ a b, (a = 10 ∧ ((2 ≤ b ∧ b ≤ 7) ∨ b = 9)) ∨ σ'.1 a b = σ.1 a b) ∧ (∀ k, k = 47 ∨ σ'.2.1 k = σ.2.1 k) ∧ ∀ k, (k = 44 ∨ k = 45 ∨ k = 46 ∨ k = 48) ∨ σ'.2.2 k = σ.2.2 k
/-- token j stands: what the reference knows -/
def rq_A (σ' : pm_S) (t : Nat → Nat) (M j : Nat) : Prop :=
  (lx_k t M lx_ns j = 45 → σ'.1 10 6 = nI (lx_v t M lx_ns j) ∧ σ'.1 10 7 = nI (lx_p t M lx_ns j)) ∧
  (lx_k t M lx_ns j ≠ 45 → σ'.1 10 6 = 0 ∧ σ'.1 10 2 = nI (lx_at t M lx_ns (j + 1)).1 ∧ σ'.1 10 3 = rx_c (lx_k t M lx_ns j) ∧ σ'.1 10 4 = nI (lx_p t M lx_ns j) ∧ σ'.1 10 5 = nI (rq_v t M j) ∧ rx_N σ' t M (rq_ps t M (j + 1)))
theorem rq_Fr {σ : pm_S} : rq_F σ σ := ⟨fun _ _ => Or.inr rfl, fun _ => Or.inr rfl, fun _ => Or.inr rfl⟩
theorem rq_Fp {σ σ' : pm_S} {b : Nat} {x : Int32} (h : rq_F σ σ') (hb : (2 ≤ b ∧ b ≤ 7) ∨ b = 9) : rq_F σ (pm_pi σ' 10 b x) := by
  refine ⟨fun a c => ?_, h.2.1, h.2.2⟩
  rcases h.1 a c with z | z
  · exact Or.inl z
  · by_cases q : a = 10
    · by_cases q2 : c = b
      · exact Or.inl ⟨q, by rw [q2]; exact hb⟩
      · right; rw [← z]; unfold pm_pi; simp [q, q2]
    · right; rw [← z]; unfold pm_pi; simp [q]
theorem rq_Fx {σ σ1 σ' : pm_S} (h : rq_F σ σ1) (h2 : rx_Fr σ1 σ') : rq_F σ σ' := by
  obtain ⟨f1, f2, f3⟩ := h2
  refine ⟨fun a c => ?_, fun k => ?_, fun k => ?_⟩
  · by_cases q : a = 10 ∧ c = 9
    · exact Or.inl ⟨q.1, Or.inr q.2⟩
    · rw [f1 a c q]; exact h.1 a c
  · by_cases q : k = 47
    · exact Or.inl q
    · rw [f2 k q]; exact h.2.1 k
  · by_cases q : k = 44 ∨ k = 45 ∨ k = 46 ∨ k = 48
    · exact Or.inl q
    · rw [f3 k (by omega) (by omega) (by omega) (by omega)]; exact h.2.2 k
/-- words of the reference's names differ -/
def rq_D (t : Nat → Nat) (ps : List (Nat × Nat)) : Prop := ∀ (i j : Nat) (p q : Nat × Nat), ps[i]? = some p → ps[j]? = some q → rx_wd t p = rx_wd t q → i = j
theorem rq_hf {t : Nat → Nat} {ps : List (Nat × Nat)} {w : List Nat} : rq_h t ps w = false ↔ ∀ q ∈ ps, ¬ rx_wd t q = w := by
  unfold rq_h
  rw [List.any_eq_false]
  exact ⟨fun h q hq => by simpa using h q hq, fun h q hq => by simpa using h q hq⟩
theorem rq_i {t : Nat → Nat} {ps : List (Nat × Nat)} {w : List Nat} {i : Nat} {p : Nat × Nat} (hD : rq_D t ps) (h : ps[i]? = some p) (hw : rx_wd t p = w) : rq_ix t ps w = i := by
  have hlt : ps.findIdx (fun q => decide (rx_wd t q = w)) < ps.length := List.findIdx_lt_length_of_exists ⟨p, List.mem_of_getElem? h, by simpa using hw⟩
  have hp := List.findIdx_getElem (w := hlt)
  exact hD _ _ _ _ (List.getElem?_eq_getElem hlt) h ((of_decide_eq_true hp).trans hw.symm)
theorem rq_Da {t : Nat → Nat} {ps : List (Nat × Nat)} {p : Nat × Nat} (h : rq_D t ps) (hn : ∀ q ∈ ps, ¬ rx_wd t q = rx_wd t p) : rq_D t (ps ++ [p]) := by
  have key : ∀ (i : Nat) (q : Nat × Nat), (ps ++ [p])[i]? = some q → (ps[i]? = some q ∧ i < ps.length) ∨ (i = ps.length ∧ q = p) := fun i q hq => by
    by_cases w : i < ps.length
    · rw [List.getElem?_append_left w] at hq; exact Or.inl ⟨hq, w⟩
    · rw [List.getElem?_append_right (by omega)] at hq
      by_cases z : i = ps.length
      · rw [z, Nat.sub_self] at hq; cases hq; exact Or.inr ⟨z, rfl⟩
      · rw [List.getElem?_eq_none (by rw [List.length_singleton]; omega)] at hq; cases hq
  intro i j a b ha hb he
  rcases key i a ha with ⟨x1, x2⟩ | ⟨x1, x2⟩ <;> rcases key j b hb with ⟨y1, y2⟩ | ⟨y1, y2⟩
  · exact h i j a b x1 y1 he
  · exact absurd (by rw [← y2]; exact he) (hn a (List.mem_of_getElem? x1))
  · exact absurd (by rw [← x2]; exact he.symm) (hn b (List.mem_of_getElem? y1))
  · omega
theorem rq_Dj {t : Nat → Nat} {M : Nat} (hw : ∀ j, rx_wd t (lx_p t M lx_ns j, (lx_at t M lx_ns (j + 1)).1 - lx_p t M lx_ns j) = rq_w t M j ∨ lx_k t M lx_ns j ≠ 41) : ∀ j, rq_D t (rq_ps t M j)
  | 0 => fun i j p q h => by simp [rq_ps] at h
  | j + 1 => by
    unfold rq_ps
    by_cases h : lx_k t M lx_ns j = 41 ∧ rq_h t (rq_ps t M j) (rq_w t M j) = false
    · rw [if_pos h]
      refine rq_Da (rq_Dj hw j) (fun q hq => ?_)
      rw [(hw j).resolve_right (fun z => z h.1)]
      exact rq_hf.mp h.2 q hq
    · rw [if_neg h]; exact rq_Dj hw j
