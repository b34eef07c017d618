/-! THE CLASS'S PARSER: its primitives -/
def tr_L (σ : pm_S) (l : List pg_N) : Prop := σ.1 3 8 = nI l.length ∧ ∀ (j : Nat) (x : pg_N), l[j]? = some x → σ.2.2 19 j = nI x.1 ∧ σ.2.2 20 j = nI x.2.1 ∧ σ.2.2 21 j = x.2.2.1 ∧ σ.2.2 22 j = nI x.2.2.2 ∧ σ.2.2 23 j = -1 ∧ σ.2.2 24 j = -1 ∧ σ.2.2 25 j = -1 ∧ σ.2.2 26 j = -1
/-- the tokens, n of them -/
def pc_K (T : pg_T) (n : Nat) (σ : pm_S) : Prop := 1 ≤ n ∧ n ≤ 8193 ∧ σ.1 2 5 = nI n ∧ (∀ j, j < n → σ.2.2 16 j = nI (T.1 j) ∧ σ.2.2 17 j = nI (T.2.1 j) ∧ σ.2.2 18 j = nI (T.2.2 j)) ∧ (∀ j, j + 1 < n → T.1 j ≠ 44 ∧ T.1 j ≠ 45) ∧ (∀ j, n ≤ j + 1 → T.1 j = 44 ∨ T.1 j = 45) ∧ ∀ j, T.1 j ≤ 68 ∧ T.1 j ≠ 46
def pc_F (σ0 σ : pm_S) : Prop := (∀ a b, (a = 2 ∧ (b = 9 ∨ b = 10)) ∨ (a = 3 ∧ b = 8) ∨ (a = 4 ∧ (b = 2 ∨ b = 3)) ∨ σ.1 a b = σ0.1 a b) ∧ σ.2.1 = σ0.2.1 ∧ ∀ k, (19 ≤ k ∧ k ≤ 26) ∨ σ.2.2 k = σ0.2.2 k
def pc_B (T : pg_T) (n : Nat) (σ0 σ : pm_S) (c : pg_C) (l : List pg_N) : Prop := pc_F σ0 σ ∧ c.1 < n ∧ σ.1 2 9 = nI c.1 ∧ σ.1 2 10 = nI (pg_k T c) ∧ σ.1 4 3 = b2 (c.2.1 == 2) ∧ (pg_live T c → σ.1 4 2 = nI c.2.2 ∧ c.2.2 ≤ 60) ∧ (∃ m, m ≤ 16386 ∧ σ.1 3 8 = nI m) ∧ (l.length ≤ 16386 → tr_L σ l)
def pc_R (T : pg_T) (n : Nat) (σ0 σ : pm_S) (c : pg_C) (l s : List pg_N) : Prop := pc_B T n σ0 σ c (l ++ s)
theorem pc_e {T : pg_T} {n : Nat} {σ0 σ : pm_S} {c c' : pg_C} {l s l' s' : List pg_N} (h : pc_R T n σ0 σ c l s) (hc : c = c') (hl : l ++ s = l' ++ s') : pc_R T n σ0 σ c' l' s' := by
  subst hc
  unfold pc_R at *
  rw [← hl]
  exact h
/-- new base -/
theorem pc_rb {T : pg_T} {n : Nat} {σ0 σ : pm_S} {c : pg_C} {l s : List pg_N} (h : pc_R T n σ0 σ c l s) : pc_R T n σ0 σ c (l ++ s) [] := pc_e h rfl (List.append_nil _).symm
/-- out of the base again -/
theorem pc_fin {T : pg_T} {n : Nat} {σ0 σ : pm_S} {c c' : pg_C} {l s r : List pg_N} {q : pg_C × List pg_N} (h : pc_R T n σ0 σ c (l ++ s) r) (hq : q = (c, r)) : pc_R T n σ0 σ q.1 l (s ++ q.2) := by
  subst hq
  exact pc_e h rfl (List.append_assoc _ _ _)
theorem pc_fr {σ0 σ σ' : pm_S} (h : pc_F σ0 σ) (h1 : ∀ a b, (a = 2 ∧ (b = 9 ∨ b = 10)) ∨ (a = 3 ∧ b = 8) ∨ (a = 4 ∧ (b = 2 ∨ b = 3)) ∨ σ'.1 a b = σ.1 a b) (h2 : σ'.2.1 = σ.2.1) (h3 : ∀ k, (19 ≤ k ∧ k ≤ 26) ∨ σ'.2.2 k = σ.2.2 k) : pc_F σ0 σ' := by
  refine ⟨fun a b => ?_, h2.trans h.2.1, fun k => ?_⟩
  · rcases h1 a b with q | q | q | q
    · exact Or.inl q
    · exact Or.inr (Or.inl q)
    · exact Or.inr (Or.inr (Or.inl q))
    · rcases h.1 a b with w | w | w | w
      · exact Or.inl w
      · exact Or.inr (Or.inl w)
      · exact Or.inr (Or.inr (Or.inl w))
      · exact Or.inr (Or.inr (Or.inr (q.trans w)))
  · rcases h3 k with q | q
    · exact Or.inl q
    · rcases h.2.2 k with w | w
      · exact Or.inl w
      · exact Or.inr (q.trans w)
theorem pc_pi {σ0 σ : pm_S} {a b : Nat} {x : Int32} (h : pc_F σ0 σ) (hab : (a = 2 ∧ (b = 9 ∨ b = 10)) ∨ (a = 3 ∧ b = 8) ∨ (a = 4 ∧ (b = 2 ∨ b = 3))) : pc_F σ0 (pm_pi σ a b x) := pc_fr h (fun a' b' => by
  by_cases q : a' = a
  · by_cases q' : b' = b
    · subst q; subst q'; omega
    · right; right; right; unfold pm_pi; simp [q, q']
  · right; right; right; unfold pm_pi; simp [q]) rfl (fun _ => Or.inr rfl)
theorem pc_pr {σ0 σ : pm_S} {k : Nat} {f : Nat → Int32} (h : pc_F σ0 σ) (hk : 19 ≤ k ∧ k ≤ 26) : pc_F σ0 (pm_pr σ k f) := pc_fr h (fun _ _ => Or.inr (Or.inr (Or.inr rfl))) rfl (fun k' => by
  by_cases q : k' = k
  · left; omega
  · right; exact pm_rne q)
/-- what the tokens show -/
theorem pc_a {T : pg_T} {n : Nat} {σ0 σ : pm_S} {c : pg_C} {l : List pg_N} (hK : pc_K T n σ0) (h : pc_B T n σ0 σ c l) : σ.1 2 5 = nI n ∧ ∀ j, j < n → σ.2.2 16 j = nI (T.1 j) ∧ σ.2.2 17 j = nI (T.2.1 j) ∧ σ.2.2 18 j = nI (T.2.2 j) := by
  obtain ⟨k1, k2, k3, k4, _⟩ := hK
  obtain ⟨⟨f1, _, f3⟩, _⟩ := h
  have e5 : σ.1 2 5 = σ0.1 2 5 := (((f1 2 5).resolve_left (by decide)).resolve_left (by decide)).resolve_left (by decide)
  have g : ∀ k, k = 16 ∨ k = 17 ∨ k = 18 → σ.2.2 k = σ0.2.2 k := fun k hk => (f3 k).resolve_left (by omega)
  rw [e5, g 16 (by omega), g 17 (by omega), g 18 (by omega)]
  exact ⟨k3, k4⟩
theorem d45_0 : decode prog_9_method_3_code 0 = .ok (.aload_n 0, 1) := by decide +kernel
theorem d45_1 : decode prog_9_method_3_code 1 = .ok (.getfield 48, 3) := by decide +kernel
theorem d45_4 : decode prog_9_method_3_code 4 = .ok (.ireturn, 1) := by decide +kernel
theorem m45 : pm_m 45 = some (⟨"TypeRules$Tokens", "kindHere", "()I"⟩, prog_9_method_3_code, 1, (some FieldType.int), 2, 0, 3) := rfl
theorem d46_0 : decode prog_9_method_4_code 0 = .ok (.aload_n 0, 1) := by decide +kernel
theorem d46_1 : decode prog_9_method_4_code 1 = .ok (.getfield 23, 3) := by decide +kernel
theorem d46_4 : decode prog_9_method_4_code 4 = .ok (.aload_n 0, 1) := by decide +kernel
theorem d46_5 : decode prog_9_method_4_code 5 = .ok (.getfield 43, 3) := by decide +kernel
theorem d46_8 : decode prog_9_method_4_code 8 = .ok (.iaload, 1) := by decide +kernel
theorem d46_9 : decode prog_9_method_4_code 9 = .ok (.ireturn, 1) := by decide +kernel
theorem m46 : pm_m 46 = some (⟨"TypeRules$Tokens", "placeHere", "()I"⟩, prog_9_method_4_code, 1, (some FieldType.int), 2, 0, 3) := rfl
theorem d47_0 : decode prog_9_method_9_code 0 = .ok (.aload_n 0, 1) := by decide +kernel
theorem d47_1 : decode prog_9_method_9_code 1 = .ok (.getfield 48, 3) := by decide +kernel
theorem d47_4 : decode prog_9_method_9_code 4 = .ok (.bipush 46, 2) := by decide +kernel
theorem d47_6 : decode prog_9_method_9_code 6 = .ok (.if_icmp .eq 39, 3) := by decide +kernel
theorem d47_9 : decode prog_9_method_9_code 9 = .ok (.aload_n 0, 1) := by decide +kernel
theorem d47_10 : decode prog_9_method_9_code 10 = .ok (.getfield 43, 3) := by decide +kernel
theorem d47_13 : decode prog_9_method_9_code 13 = .ok (.iconst 1, 1) := by decide +kernel
theorem d47_14 : decode prog_9_method_9_code 14 = .ok (.iadd, 1) := by decide +kernel
theorem d47_15 : decode prog_9_method_9_code 15 = .ok (.aload_n 0, 1) := by decide +kernel
theorem d47_16 : decode prog_9_method_9_code 16 = .ok (.getfield 29, 3) := by decide +kernel
theorem d47_19 : decode prog_9_method_9_code 19 = .ok (.if_icmp .ge 26, 3) := by decide +kernel
theorem d47_22 : decode prog_9_method_9_code 22 = .ok (.aload_n 0, 1) := by decide +kernel
theorem d47_23 : decode prog_9_method_9_code 23 = .ok (.dup, 1) := by decide +kernel
theorem d47_24 : decode prog_9_method_9_code 24 = .ok (.getfield 43, 3) := by decide +kernel
theorem d47_27 : decode prog_9_method_9_code 27 = .ok (.iconst 1, 1) := by decide +kernel
theorem d47_28 : decode prog_9_method_9_code 28 = .ok (.iadd, 1) := by decide +kernel
theorem d47_29 : decode prog_9_method_9_code 29 = .ok (.putfield 43, 3) := by decide +kernel
theorem d47_32 : decode prog_9_method_9_code 32 = .ok (.aload_n 0, 1) := by decide +kernel
theorem d47_33 : decode prog_9_method_9_code 33 = .ok (.aload_n 0, 1) := by decide +kernel
theorem d47_34 : decode prog_9_method_9_code 34 = .ok (.getfield 19, 3) := by decide +kernel
theorem d47_37 : decode prog_9_method_9_code 37 = .ok (.aload_n 0, 1) := by decide +kernel
theorem d47_38 : decode prog_9_method_9_code 38 = .ok (.getfield 43, 3) := by decide +kernel
theorem d47_41 : decode prog_9_method_9_code 41 = .ok (.iaload, 1) := by decide +kernel
theorem d47_42 : decode prog_9_method_9_code 42 = .ok (.putfield 48, 3) := by decide +kernel
theorem d47_45 : decode prog_9_method_9_code 45 = .ok (.return_, 1) := by decide +kernel
theorem m47 : pm_m 47 = some (⟨"TypeRules$Tokens", "step", "()V"⟩, prog_9_method_9_code, 1, none, 2, 0, 3) := rfl
theorem d48_0 : decode prog_9_method_5_code 0 = .ok (.aload_n 0, 1) := by decide +kernel
theorem d48_1 : decode prog_9_method_5_code 1 = .ok (.getfield 26, 3) := by decide +kernel
theorem d48_4 : decode prog_9_method_5_code 4 = .ok (.aload_n 0, 1) := by decide +kernel
theorem d48_5 : decode prog_9_method_5_code 5 = .ok (.getfield 43, 3) := by decide +kernel
theorem d48_8 : decode prog_9_method_5_code 8 = .ok (.iaload, 1) := by decide +kernel
theorem d48_9 : decode prog_9_method_5_code 9 = .ok (.ireturn, 1) := by decide +kernel
theorem m48 : pm_m 48 = some (⟨"TypeRules$Tokens", "valueHere", "()I"⟩, prog_9_method_5_code, 1, (some FieldType.int), 2, 0, 3) := rfl
theorem d49_0 : decode prog_9_method_10_code 0 = .ok (.aload_n 0, 1) := by decide +kernel
theorem d49_1 : decode prog_9_method_10_code 1 = .ok (.getfield 48, 3) := by decide +kernel
theorem d49_4 : decode prog_9_method_10_code 4 = .ok (.iload_n 1, 1) := by decide +kernel
theorem d49_5 : decode prog_9_method_10_code 5 = .ok (.if_icmp .ne 42, 3) := by decide +kernel
theorem d49_8 : decode prog_9_method_10_code 8 = .ok (.aload_n 0, 1) := by decide +kernel
theorem d49_9 : decode prog_9_method_10_code 9 = .ok (.getfield 43, 3) := by decide +kernel
theorem d49_12 : decode prog_9_method_10_code 12 = .ok (.iconst 1, 1) := by decide +kernel
theorem d49_13 : decode prog_9_method_10_code 13 = .ok (.iadd, 1) := by decide +kernel
theorem d49_14 : decode prog_9_method_10_code 14 = .ok (.aload_n 0, 1) := by decide +kernel
theorem d49_15 : decode prog_9_method_10_code 15 = .ok (.getfield 29, 3) := by decide +kernel
theorem d49_18 : decode prog_9_method_10_code 18 = .ok (.if_icmp .ge 29, 3) := by decide +kernel
theorem d49_21 : decode prog_9_method_10_code 21 = .ok (.aload_n 0, 1) := by decide +kernel
theorem d49_22 : decode prog_9_method_10_code 22 = .ok (.dup, 1) := by decide +kernel
theorem d49_23 : decode prog_9_method_10_code 23 = .ok (.getfield 43, 3) := by decide +kernel
theorem d49_26 : decode prog_9_method_10_code 26 = .ok (.iconst 1, 1) := by decide +kernel
theorem d49_27 : decode prog_9_method_10_code 27 = .ok (.iadd, 1) := by decide +kernel
theorem d49_28 : decode prog_9_method_10_code 28 = .ok (.putfield 43, 3) := by decide +kernel
theorem d49_31 : decode prog_9_method_10_code 31 = .ok (.aload_n 0, 1) := by decide +kernel
theorem d49_32 : decode prog_9_method_10_code 32 = .ok (.aload_n 0, 1) := by decide +kernel
theorem d49_33 : decode prog_9_method_10_code 33 = .ok (.getfield 19, 3) := by decide +kernel
theorem d49_36 : decode prog_9_method_10_code 36 = .ok (.aload_n 0, 1) := by decide +kernel
theorem d49_37 : decode prog_9_method_10_code 37 = .ok (.getfield 43, 3) := by decide +kernel
theorem d49_40 : decode prog_9_method_10_code 40 = .ok (.iaload, 1) := by decide +kernel
theorem d49_41 : decode prog_9_method_10_code 41 = .ok (.putfield 48, 3) := by decide +kernel
theorem d49_44 : decode prog_9_method_10_code 44 = .ok (.goto 9, 3) := by decide +kernel
theorem d49_47 : decode prog_9_method_10_code 47 = .ok (.aload_n 0, 1) := by decide +kernel
theorem d49_48 : decode prog_9_method_10_code 48 = .ok (.bipush 46, 2) := by decide +kernel
theorem d49_50 : decode prog_9_method_10_code 50 = .ok (.putfield 48, 3) := by decide +kernel
theorem d49_53 : decode prog_9_method_10_code 53 = .ok (.return_, 1) := by decide +kernel
theorem m49 : pm_m 49 = some (⟨"TypeRules$Tokens", "expect", "(I)V"⟩, prog_9_method_10_code, 2, none, 2, 1, 3) := rfl
theorem d50_0 : decode prog_9_method_11_code 0 = .ok (.aload_n 0, 1) := by decide +kernel
theorem d50_1 : decode prog_9_method_11_code 1 = .ok (.bipush 46, 2) := by decide +kernel
theorem d50_3 : decode prog_9_method_11_code 3 = .ok (.putfield 48, 3) := by decide +kernel
theorem d50_6 : decode prog_9_method_11_code 6 = .ok (.return_, 1) := by decide +kernel
theorem m50 : pm_m 50 = some (⟨"TypeRules$Tokens", "stop", "()V"⟩, prog_9_method_11_code, 1, none, 2, 0, 3) := rfl
theorem d51_0 : decode prog_9_method_7_code 0 = .ok (.aload_n 0, 1) := by decide +kernel
theorem d51_1 : decode prog_9_method_7_code 1 = .ok (.getfield 48, 3) := by decide +kernel
theorem d51_4 : decode prog_9_method_7_code 4 = .ok (.iload_n 1, 1) := by decide +kernel
theorem d51_5 : decode prog_9_method_7_code 5 = .ok (.if_icmp .ne 7, 3) := by decide +kernel
theorem d51_8 : decode prog_9_method_7_code 8 = .ok (.iconst 1, 1) := by decide +kernel
theorem d51_9 : decode prog_9_method_7_code 9 = .ok (.goto 4, 3) := by decide +kernel
theorem d51_12 : decode prog_9_method_7_code 12 = .ok (.iconst 0, 1) := by decide +kernel
theorem d51_13 : decode prog_9_method_7_code 13 = .ok (.ireturn, 1) := by decide +kernel
theorem m51 : pm_m 51 = some (⟨"TypeRules$Tokens", "isHere", "(I)Z"⟩, prog_9_method_7_code, 2, (some FieldType.boolean), 2, 1, 3) := rfl
theorem d52_0 : decode prog_9_method_6_code 0 = .ok (.aload_n 0, 1) := by decide +kernel
theorem d52_1 : decode prog_9_method_6_code 1 = .ok (.getfield 43, 3) := by decide +kernel
theorem d52_4 : decode prog_9_method_6_code 4 = .ok (.ifCond .le 17, 3) := by decide +kernel
theorem d52_7 : decode prog_9_method_6_code 7 = .ok (.aload_n 0, 1) := by decide +kernel
theorem d52_8 : decode prog_9_method_6_code 8 = .ok (.getfield 23, 3) := by decide +kernel
theorem d52_11 : decode prog_9_method_6_code 11 = .ok (.aload_n 0, 1) := by decide +kernel
theorem d52_12 : decode prog_9_method_6_code 12 = .ok (.getfield 43, 3) := by decide +kernel
theorem d52_15 : decode prog_9_method_6_code 15 = .ok (.iconst 1, 1) := by decide +kernel
theorem d52_16 : decode prog_9_method_6_code 16 = .ok (.isub, 1) := by decide +kernel
theorem d52_17 : decode prog_9_method_6_code 17 = .ok (.iaload, 1) := by decide +kernel
theorem d52_18 : decode prog_9_method_6_code 18 = .ok (.goto 4, 3) := by decide +kernel
theorem d52_21 : decode prog_9_method_6_code 21 = .ok (.iconst 0, 1) := by decide +kernel
theorem d52_22 : decode prog_9_method_6_code 22 = .ok (.ireturn, 1) := by decide +kernel
theorem m52 : pm_m 52 = some (⟨"TypeRules$Tokens", "placeBefore", "()I"⟩, prog_9_method_6_code, 1, (some FieldType.int), 2, 0, 3) := rfl
theorem d53_0 : decode prog_9_method_8_code 0 = .ok (.aload_n 0, 1) := by decide +kernel
theorem d53_1 : decode prog_9_method_8_code 1 = .ok (.getfield 43, 3) := by decide +kernel
theorem d53_4 : decode prog_9_method_8_code 4 = .ok (.iconst 1, 1) := by decide +kernel
theorem d53_5 : decode prog_9_method_8_code 5 = .ok (.iadd, 1) := by decide +kernel
theorem d53_6 : decode prog_9_method_8_code 6 = .ok (.aload_n 0, 1) := by decide +kernel
theorem d53_7 : decode prog_9_method_8_code 7 = .ok (.getfield 29, 3) := by decide +kernel
theorem d53_10 : decode prog_9_method_8_code 10 = .ok (.if_icmp .ge 22, 3) := by decide +kernel
theorem d53_13 : decode prog_9_method_8_code 13 = .ok (.aload_n 0, 1) := by decide +kernel
theorem d53_14 : decode prog_9_method_8_code 14 = .ok (.getfield 19, 3) := by decide +kernel
theorem d53_17 : decode prog_9_method_8_code 17 = .ok (.aload_n 0, 1) := by decide +kernel
theorem d53_18 : decode prog_9_method_8_code 18 = .ok (.getfield 43, 3) := by decide +kernel
theorem d53_21 : decode prog_9_method_8_code 21 = .ok (.iconst 1, 1) := by decide +kernel
theorem d53_22 : decode prog_9_method_8_code 22 = .ok (.iadd, 1) := by decide +kernel
theorem d53_23 : decode prog_9_method_8_code 23 = .ok (.iaload, 1) := by decide +kernel
theorem d53_24 : decode prog_9_method_8_code 24 = .ok (.iload_n 1, 1) := by decide +kernel
theorem d53_25 : decode prog_9_method_8_code 25 = .ok (.if_icmp .ne 7, 3) := by decide +kernel
theorem d53_28 : decode prog_9_method_8_code 28 = .ok (.iconst 1, 1) := by decide +kernel
theorem d53_29 : decode prog_9_method_8_code 29 = .ok (.goto 4, 3) := by decide +kernel
theorem d53_32 : decode prog_9_method_8_code 32 = .ok (.iconst 0, 1) := by decide +kernel
theorem d53_33 : decode prog_9_method_8_code 33 = .ok (.ireturn, 1) := by decide +kernel
theorem m53 : pm_m 53 = some (⟨"TypeRules$Tokens", "isNext", "(I)Z"⟩, prog_9_method_8_code, 2, (some FieldType.boolean), 2, 1, 3) := rfl
theorem d54_0 : decode prog_9_method_12_code 0 = .ok (.aload_n 0, 1) := by decide +kernel
theorem d54_1 : decode prog_9_method_12_code 1 = .ok (.getfield 19, 3) := by decide +kernel
theorem d54_4 : decode prog_9_method_12_code 4 = .ok (.aload_n 0, 1) := by decide +kernel
theorem d54_5 : decode prog_9_method_12_code 5 = .ok (.getfield 43, 3) := by decide +kernel
theorem d54_8 : decode prog_9_method_12_code 8 = .ok (.iaload, 1) := by decide +kernel
theorem d54_9 : decode prog_9_method_12_code 9 = .ok (.bipush 45, 2) := by decide +kernel
theorem d54_11 : decode prog_9_method_12_code 11 = .ok (.if_icmp .ne 15, 3) := by decide +kernel
theorem d54_14 : decode prog_9_method_12_code 14 = .ok (.aload_n 0, 1) := by decide +kernel
theorem d54_15 : decode prog_9_method_12_code 15 = .ok (.getfield 26, 3) := by decide +kernel
theorem d54_18 : decode prog_9_method_12_code 18 = .ok (.aload_n 0, 1) := by decide +kernel
theorem d54_19 : decode prog_9_method_12_code 19 = .ok (.getfield 43, 3) := by decide +kernel
theorem d54_22 : decode prog_9_method_12_code 22 = .ok (.iaload, 1) := by decide +kernel
theorem d54_23 : decode prog_9_method_12_code 23 = .ok (.goto 5, 3) := by decide +kernel
theorem d54_26 : decode prog_9_method_12_code 26 = .ok (.bipush 6, 2) := by decide +kernel
theorem d54_28 : decode prog_9_method_12_code 28 = .ok (.ireturn, 1) := by decide +kernel
theorem m54 : pm_m 54 = some (⟨"TypeRules$Tokens", "faultHere", "()I"⟩, prog_9_method_12_code, 1, (some FieldType.int), 2, 0, 3) := rfl
theorem pk45 {d : Nat} {T : pg_T} {n : Nat} {σ0 σ : pm_S} {c : pg_C} {l s : List pg_N} {Q : Option Value → pm_S → Prop} (hR : pc_R T n σ0 σ c l s) (hQ : Q (some (.int (nI (pg_k T c)))) σ) : pm_call pm_Y0 (d + 1) 45 [.ref 2] σ Q := by
  obtain ⟨r1, r2, r3, r4, r5, r6, r7, r8⟩ := hR
  refine wq_m m45 (Nat.le_of_ble_eq_true rfl) (by decide) rfl ?_
  refine wq_l 1 d45_0 rfl rfl rfl rfl ?_
  refine wq_gi (ci := 2) (j := 10) 4 d45_1 rfl rfl rfl rfl ?_
  rw [r4]
  refine wq_ri d45_4 (rfl) ?_
  exact hQ
theorem pk46 {d : Nat} {T : pg_T} {n : Nat} {σ0 σ : pm_S} {c : pg_C} {l s : List pg_N} {Q : Option Value → pm_S → Prop} (hK : pc_K T n σ0) (hR : pc_R T n σ0 σ c l s) (hQ : Q (some (.int (nI (pg_pl T c)))) σ) : pm_call pm_Y0 (d + 1) 46 [.ref 2] σ Q := by
  have hB : pc_B T n σ0 σ c (l ++ s) := hR
  obtain ⟨a1, a2⟩ := pc_a hK hB
  obtain ⟨r1, r2, r3, r4, r5, r6, r7, r8⟩ := hR
  have hn := hK.2.1
  have ec := nI_toInt (n := c.1) (by omega)
  have en := nI_toInt (n := n) (by omega)
  refine wq_m m46 (Nat.le_of_ble_eq_true rfl) (by decide) rfl ?_
  refine wq_l 1 d46_0 rfl rfl rfl rfl ?_
  refine wq_gr (ci := 2) (j := 3) (q := 17) 4 d46_1 rfl rfl rfl rfl ?_
  refine wq_l 5 d46_4 rfl rfl rfl rfl ?_
  refine wq_gi (ci := 2) (j := 9) 8 d46_5 rfl rfl rfl rfl ?_
  rw [r3]
  refine wq_al 9 d46_8 rfl rfl rfl (vp_in_iff.mpr (by simp only [i_lt, i_le, i_eq, ne_eq, Int32.reduceToInt, b2_0, b2_1, decide_eq_true_eq, decide_eq_false_iff_not, Bool.not_eq_true, Bool.not_eq_false] at * <;> omega)) ?_
  rw [nI_clamp (by omega), (a2 c.1 r2).2.1]
  refine wq_ri d46_9 (rfl) ?_
  exact hQ
theorem pk48 {d : Nat} {T : pg_T} {n : Nat} {σ0 σ : pm_S} {c : pg_C} {l s : List pg_N} {Q : Option Value → pm_S → Prop} (hK : pc_K T n σ0) (hR : pc_R T n σ0 σ c l s) (hQ : Q (some (.int (pg_v T c))) σ) : pm_call pm_Y0 (d + 1) 48 [.ref 2] σ Q := by
  have hB : pc_B T n σ0 σ c (l ++ s) := hR
  obtain ⟨a1, a2⟩ := pc_a hK hB
  obtain ⟨r1, r2, r3, r4, r5, r6, r7, r8⟩ := hR
  have hn := hK.2.1
  have ec := nI_toInt (n := c.1) (by omega)
  have en := nI_toInt (n := n) (by omega)
  refine wq_m m48 (Nat.le_of_ble_eq_true rfl) (by decide) rfl ?_
  refine wq_l 1 d48_0 rfl rfl rfl rfl ?_
  refine wq_gr (ci := 2) (j := 4) (q := 18) 4 d48_1 rfl rfl rfl rfl ?_
  refine wq_l 5 d48_4 rfl rfl rfl rfl ?_
  refine wq_gi (ci := 2) (j := 9) 8 d48_5 rfl rfl rfl rfl ?_
  rw [r3]
  refine wq_al 9 d48_8 rfl rfl rfl (vp_in_iff.mpr (by simp only [i_lt, i_le, i_eq, ne_eq, Int32.reduceToInt, b2_0, b2_1, decide_eq_true_eq, decide_eq_false_iff_not, Bool.not_eq_true, Bool.not_eq_false] at * <;> omega)) ?_
  rw [nI_clamp (by omega), (a2 c.1 r2).2.2]
  refine wq_ri d48_9 (rfl) ?_
  exact hQ
theorem pc_mv {T : pg_T} {n : Nat} {σ0 σ : pm_S} {c : pg_C} {l : List pg_N} (h : pc_B T n σ0 σ c l) (hl : pg_live T c) (hn : c.1 + 1 < n) : pc_B T n σ0 (pm_pi (pm_pi σ 2 9 (nI (c.1 + 1))) 2 10 (nI (T.1 (c.1 + 1)))) (c.1 + 1, c.2.1, c.2.2) l := by
  obtain ⟨r1, r2, r3, r4, r5, r6, r7, r8⟩ := h
  refine ⟨pc_pi (pc_pi r1 (by decide)) (by decide), hn, rfl, ?_, r5, fun _ => r6 hl, r7, r8⟩
  show nI (T.1 (c.1 + 1)) = nI (pg_k T (c.1 + 1, c.2.1, c.2.2))
  unfold pg_k
  rw [if_pos hl.1]
theorem pc_st {T : pg_T} {n : Nat} {σ0 σ : pm_S} {c : pg_C} {l : List pg_N} (h : pc_B T n σ0 σ c l) : pc_B T n σ0 (pm_pi σ 2 10 46) (pg_stop c) l := by
  obtain ⟨r1, r2, r3, r4, r5, r6, r7, r8⟩ := h
  have hs : (pg_stop c).2.1 ≠ 0 := by
    show (if c.2.1 = 0 then 1 else c.2.1) ≠ 0
    split <;> omega
  refine ⟨pc_pi r1 (by decide), r2, r3, ?_, ?_, fun z => absurd z.1 hs, r7, r8⟩
  · show (46 : Int32) = nI (pg_k T (pg_stop c))
    unfold pg_k
    rw [if_neg hs]
    rfl
  · show σ.1 4 3 = b2 ((if c.2.1 = 0 then 1 else c.2.1) == 2)
    rw [r5]
    by_cases q : c.2.1 = 0
    · rw [if_pos q, q]; rfl
    · rw [if_neg q]
theorem pg_kT {T : pg_T} {c : pg_C} {k : Nat} (h : pg_k T c = k) (hk : k ≠ 46) : c.2.1 = 0 ∧ T.1 c.1 = k := by
  unfold pg_k at h
  by_cases q : c.2.1 = 0
  · rw [if_pos q] at h; exact ⟨q, h⟩
  · rw [if_neg q] at h; exact absurd h.symm hk
theorem pg_kle {T : pg_T} {n : Nat} {σ : pm_S} (hK : pc_K T n σ) (c : pg_C) : pg_k T c ≤ 68 := by
  unfold pg_k
  split
  · exact (hK.2.2.2.2.2.2 c.1).1
  · omega
/-- a token that can come: another stands behind it -/
theorem pc_nx {T : pg_T} {n : Nat} {σ : pm_S} (hK : pc_K T n σ) {c : pg_C} (h1 : c.1 < n) (h2 : T.1 c.1 ≠ 44) (h3 : T.1 c.1 ≠ 45) : c.1 + 1 < n := by
  rcases Nat.lt_or_ge (c.1 + 1) n with q | q
  · exact q
  · rcases hK.2.2.2.2.2.1 c.1 q with z | z
    · exact absurd z h2
    · exact absurd z h3
theorem pk47 {d : Nat} {T : pg_T} {n : Nat} {σ0 σ : pm_S} {c : pg_C} {l s : List pg_N} {Q : Option Value → pm_S → Prop} (hK : pc_K T n σ0) (hR : pc_R T n σ0 σ c l s) (hl : pg_live T c) (h44 : T.1 c.1 ≠ 44) (hQ : ∀ σ', pc_R T n σ0 σ' (pg_stp c) l s → Q none σ') : pm_call pm_Y0 (d + 1) 47 [.ref 2] σ Q := by
  have hB : pc_B T n σ0 σ c (l ++ s) := hR
  obtain ⟨a1, a2⟩ := pc_a hK hB
  obtain ⟨r1, r2, r3, r4, r5, r6, r7, r8⟩ := hR
  have hn := hK.2.1
  have ec := nI_toInt (n := c.1) (by omega)
  have en := nI_toInt (n := n) (by omega)
  have hx := pc_nx hK r2 h44 hl.2
  have e1 := nI_toInt (n := c.1 + 1) (by omega)
  have hk : pg_k T c = T.1 c.1 := if_pos hl.1
  have ek := nI_toInt (n := T.1 c.1) (by have := (hK.2.2.2.2.2.2 c.1).1; omega)
  have h46 := (hK.2.2.2.2.2.2 c.1).2
  have hq := hQ _ (by
    have := pc_mv hB hl hx
    rw [← show pg_stp c = (c.1 + 1, c.2.1, c.2.2) from if_pos hl.1] at this
    exact this)
  refine wq_m m47 (Nat.le_of_ble_eq_true rfl) (by decide) rfl ?_
  refine wq_l 1 d47_0 rfl rfl rfl rfl ?_
  refine wq_gi (ci := 2) (j := 10) 4 d47_1 rfl rfl rfl rfl ?_
  rw [r4, hk]
  refine wq_k 6 46 d47_4 (by decide) rfl ?_
  refine wq_b 45 9 d47_6 rfl (by decide) rfl (fun c6 => absurd c6 ((by simp only [i_lt, i_le, i_eq, ne_eq, Int32.reduceToInt, b2_0, b2_1, decide_eq_true_eq, decide_eq_false_iff_not, Bool.not_eq_true, Bool.not_eq_false, ek] at * <;> omega))) (fun c6 => ?_)
  refine wq_l 10 d47_9 rfl rfl rfl rfl ?_
  refine wq_gi (ci := 2) (j := 9) 13 d47_10 rfl rfl rfl rfl ?_
  first | rw [r3] | rw [show (pm_pi σ 2 9 (nI (c.1 + 1))).1 2 9 = nI (c.1 + 1) from rfl]
  refine wq_k 14 1 d47_13 (by decide) rfl ?_
  refine wq_a 15 d47_14 rfl rfl ?_
  rw [show nI c.1 + 1 = nI (c.1 + 1) from (nI_succ _).symm]
  refine wq_l 16 d47_15 rfl rfl rfl rfl ?_
  refine wq_gi (ci := 2) (j := 5) 19 d47_16 rfl rfl rfl rfl ?_
  rw [a1]
  refine wq_b 45 22 d47_19 rfl (by decide) rfl (fun c19 => absurd c19 ((by simp only [i_lt, i_le, i_eq, ne_eq, Int32.reduceToInt, b2_0, b2_1, decide_eq_true_eq, decide_eq_false_iff_not, Bool.not_eq_true, Bool.not_eq_false, e1] at * <;> omega))) (fun c19 => ?_)
  refine wq_l 23 d47_22 rfl rfl rfl rfl ?_
  refine wq_a 24 d47_23 rfl rfl ?_
  refine wq_gi (ci := 2) (j := 9) 27 d47_24 rfl rfl rfl rfl ?_
  first | rw [r3] | rw [show (pm_pi σ 2 9 (nI (c.1 + 1))).1 2 9 = nI (c.1 + 1) from rfl]
  refine wq_k 28 1 d47_27 (by decide) rfl ?_
  refine wq_a 29 d47_28 rfl rfl ?_
  refine wq_pf (ci := 2) (j := 9) 32 d47_29 rfl rfl rfl ⟨rfl, rfl⟩ rfl ?_
  rw [show nI c.1 + 1 = nI (c.1 + 1) from (nI_succ _).symm]
  refine wq_l 33 d47_32 rfl rfl rfl rfl ?_
  refine wq_l 34 d47_33 rfl rfl rfl rfl ?_
  refine wq_gr (ci := 2) (j := 2) (q := 16) 37 d47_34 rfl rfl rfl rfl ?_
  refine wq_l 38 d47_37 rfl rfl rfl rfl ?_
  refine wq_gi (ci := 2) (j := 9) 41 d47_38 rfl rfl rfl rfl ?_
  first | rw [r3] | rw [show (pm_pi σ 2 9 (nI (c.1 + 1))).1 2 9 = nI (c.1 + 1) from rfl]
  refine wq_al 42 d47_41 rfl rfl rfl (vp_in_iff.mpr (by simp only [i_lt, i_le, i_eq, ne_eq, Int32.reduceToInt, b2_0, b2_1, decide_eq_true_eq, decide_eq_false_iff_not, Bool.not_eq_true, Bool.not_eq_false, e1] at * <;> omega)) ?_
  rw [nI_clamp (by omega), show (pm_pi σ 2 9 (nI (c.1 + 1))).2.2 16 (c.1 + 1) = nI (T.1 (c.1 + 1)) from (a2 _ hx).1]
  refine wq_pf (ci := 2) (j := 10) 45 d47_42 rfl rfl rfl ⟨rfl, rfl⟩ rfl ?_
  refine wq_rv d47_45 ?_
  exact hq
theorem pk49 {d : Nat} {T : pg_T} {n : Nat} {σ0 σ : pm_S} {c : pg_C} {l s : List pg_N} {Q : Option Value → pm_S → Prop} {k : Nat} (hK : pc_K T n σ0) (hk : k ≤ 68 ∧ k ≠ 44 ∧ k ≠ 45 ∧ k ≠ 46) (hR : pc_R T n σ0 σ c l s) (hQ : ∀ σ', pc_R T n σ0 σ' (pg_exp T k c) l s → Q none σ') : pm_call pm_Y0 (d + 1) 49 [.ref 2, .int (nI k)] σ Q := by
  have hB : pc_B T n σ0 σ c (l ++ s) := hR
  obtain ⟨a1, a2⟩ := pc_a hK hB
  obtain ⟨r1, r2, r3, r4, r5, r6, r7, r8⟩ := hR
  have hn := hK.2.1
  have ec := nI_toInt (n := c.1) (by omega)
  have en := nI_toInt (n := n) (by omega)
  have hkl := pg_kle hK c
  have ek := nI_toInt (n := pg_k T c) (by omega)
  have ek2 := nI_toInt (n := k) (by omega)
  have e1 := nI_toInt (n := c.1 + 1) (by omega)
  refine wq_m m49 (Nat.le_of_ble_eq_true rfl) (by decide) rfl ?_
  refine wq_l 1 d49_0 rfl rfl rfl rfl ?_
  refine wq_gi (ci := 2) (j := 10) 4 d49_1 rfl rfl rfl rfl ?_
  rw [r4]
  refine wq_l 5 d49_4 rfl rfl rfl rfl ?_
  refine wq_b 47 8 d49_5 rfl (by decide) rfl (fun c5 => ?_) (fun c5 => ?_)
  · -- pc 47
    have he : ¬ pg_k T c = k := (by simp only [i_lt, i_le, i_eq, ne_eq, Int32.reduceToInt, b2_0, b2_1, decide_eq_true_eq, decide_eq_false_iff_not, Bool.not_eq_true, Bool.not_eq_false, ek, ek2] at * <;> omega)
    refine wq_l 48 d49_47 rfl rfl rfl rfl ?_
    refine wq_k 50 46 d49_48 (by decide) rfl ?_
    refine wq_pf (ci := 2) (j := 10) 53 d49_50 rfl rfl rfl ⟨rfl, rfl⟩ rfl ?_
    refine wq_rv d49_53 ?_
    refine hQ _ ?_
    rw [show pg_exp T k c = pg_stop c from if_neg he]
    exact pc_st hB
  · -- pc 8
    have he : pg_k T c = k := (by simp only [i_lt, i_le, i_eq, ne_eq, Int32.reduceToInt, b2_0, b2_1, decide_eq_true_eq, decide_eq_false_iff_not, Bool.not_eq_true, Bool.not_eq_false, ek, ek2] at * <;> omega)
    obtain ⟨h0, hTk⟩ := pg_kT he hk.2.2.2
    have hl : pg_live T c := ⟨h0, by omega⟩
    have hx := pc_nx hK r2 (by omega) (by omega)
    have hq := hQ _ (by
      have := pc_mv hB hl hx
      rw [← show pg_exp T k c = (c.1 + 1, c.2.1, c.2.2) from if_pos he] at this
      exact this)
    refine wq_l 9 d49_8 rfl rfl rfl rfl ?_
    refine wq_gi (ci := 2) (j := 9) 12 d49_9 rfl rfl rfl rfl ?_
    first | rw [r3] | rw [show (pm_pi σ 2 9 (nI (c.1 + 1))).1 2 9 = nI (c.1 + 1) from rfl]
    refine wq_k 13 1 d49_12 (by decide) rfl ?_
    refine wq_a 14 d49_13 rfl rfl ?_
    rw [show nI c.1 + 1 = nI (c.1 + 1) from (nI_succ _).symm]
    refine wq_l 15 d49_14 rfl rfl rfl rfl ?_
    refine wq_gi (ci := 2) (j := 5) 18 d49_15 rfl rfl rfl rfl ?_
    rw [a1]
    refine wq_b 47 21 d49_18 rfl (by decide) rfl (fun c18 => absurd c18 ((by simp only [i_lt, i_le, i_eq, ne_eq, Int32.reduceToInt, b2_0, b2_1, decide_eq_true_eq, decide_eq_false_iff_not, Bool.not_eq_true, Bool.not_eq_false, e1] at * <;> omega))) (fun c18 => ?_)
    refine wq_l 22 d49_21 rfl rfl rfl rfl ?_
    refine wq_a 23 d49_22 rfl rfl ?_
    refine wq_gi (ci := 2) (j := 9) 26 d49_23 rfl rfl rfl rfl ?_
    first | rw [r3] | rw [show (pm_pi σ 2 9 (nI (c.1 + 1))).1 2 9 = nI (c.1 + 1) from rfl]
    refine wq_k 27 1 d49_26 (by decide) rfl ?_
    refine wq_a 28 d49_27 rfl rfl ?_
    refine wq_pf (ci := 2) (j := 9) 31 d49_28 rfl rfl rfl ⟨rfl, rfl⟩ rfl ?_
    rw [show nI c.1 + 1 = nI (c.1 + 1) from (nI_succ _).symm]
    refine wq_l 32 d49_31 rfl rfl rfl rfl ?_
    refine wq_l 33 d49_32 rfl rfl rfl rfl ?_
    refine wq_gr (ci := 2) (j := 2) (q := 16) 36 d49_33 rfl rfl rfl rfl ?_
    refine wq_l 37 d49_36 rfl rfl rfl rfl ?_
    refine wq_gi (ci := 2) (j := 9) 40 d49_37 rfl rfl rfl rfl ?_
    first | rw [r3] | rw [show (pm_pi σ 2 9 (nI (c.1 + 1))).1 2 9 = nI (c.1 + 1) from rfl]
    refine wq_al 41 d49_40 rfl rfl rfl (vp_in_iff.mpr (by simp only [i_lt, i_le, i_eq, ne_eq, Int32.reduceToInt, b2_0, b2_1, decide_eq_true_eq, decide_eq_false_iff_not, Bool.not_eq_true, Bool.not_eq_false, e1] at * <;> omega)) ?_
    rw [nI_clamp (by omega), show (pm_pi σ 2 9 (nI (c.1 + 1))).2.2 16 (c.1 + 1) = nI (T.1 (c.1 + 1)) from (a2 _ hx).1]
    refine wq_pf (ci := 2) (j := 10) 44 d49_41 rfl rfl rfl ⟨rfl, rfl⟩ rfl ?_
    refine wq_g 53 d49_44 (by decide) ?_
    refine wq_rv d49_53 ?_
    exact hq
theorem pk50 {d : Nat} {T : pg_T} {n : Nat} {σ0 σ : pm_S} {c : pg_C} {l s : List pg_N} {Q : Option Value → pm_S → Prop} (hR : pc_R T n σ0 σ c l s) (hQ : ∀ σ', pc_R T n σ0 σ' (pg_stop c) l s → Q none σ') : pm_call pm_Y0 (d + 1) 50 [.ref 2] σ Q := by
  refine wq_m m50 (Nat.le_of_ble_eq_true rfl) (by decide) rfl ?_
  refine wq_l 1 d50_0 rfl rfl rfl rfl ?_
  refine wq_k 3 46 d50_1 (by decide) rfl ?_
  refine wq_pf (ci := 2) (j := 10) 6 d50_3 rfl rfl rfl ⟨rfl, rfl⟩ rfl ?_
  refine wq_rv d50_6 ?_
  exact hQ _ (pc_st hR)
theorem pk51 {d : Nat} {T : pg_T} {n : Nat} {σ0 σ : pm_S} {c : pg_C} {l s : List pg_N} {Q : Option Value → pm_S → Prop} {k : Nat} (hK : pc_K T n σ0) (hk : k ≤ 68) (hR : pc_R T n σ0 σ c l s) (hQ : Q (some (.int (b2 (pg_is T k c)))) σ) : pm_call pm_Y0 (d + 1) 51 [.ref 2, .int (nI k)] σ Q := by
  have hB : pc_B T n σ0 σ c (l ++ s) := hR
  obtain ⟨a1, a2⟩ := pc_a hK hB
  obtain ⟨r1, r2, r3, r4, r5, r6, r7, r8⟩ := hR
  have hn := hK.2.1
  have ec := nI_toInt (n := c.1) (by omega)
  have en := nI_toInt (n := n) (by omega)
  have hkl := pg_kle hK c
  have ek := nI_toInt (n := pg_k T c) (by omega)
  have ek2 := nI_toInt (n := k) (by omega)
  have h1 : pg_k T c = k → Q (some (.int 1)) σ := fun h => by rw [show pg_is T k c = true from by unfold pg_is; simpa using h] at hQ; exact hQ
  have h0 : ¬ pg_k T c = k → Q (some (.int 0)) σ := fun h => by rw [show pg_is T k c = false from by unfold pg_is; simpa using h] at hQ; exact hQ
  refine wq_m m51 (Nat.le_of_ble_eq_true rfl) (by decide) rfl ?_
  refine wq_l 1 d51_0 rfl rfl rfl rfl ?_
  refine wq_gi (ci := 2) (j := 10) 4 d51_1 rfl rfl rfl rfl ?_
  rw [r4]
  refine wq_l 5 d51_4 rfl rfl rfl rfl ?_
  refine wq_b 12 8 d51_5 rfl (by decide) rfl (fun c5 => ?_) (fun c5 => ?_)
  · -- pc 12
    refine wq_k 13 0 d51_12 (by decide) rfl ?_
    refine wq_ri d51_13 (rfl) ?_
    first | exact h1 (by simp only [i_lt, i_le, i_eq, ne_eq, Int32.reduceToInt, b2_0, b2_1, decide_eq_true_eq, decide_eq_false_iff_not, Bool.not_eq_true, Bool.not_eq_false, ek, ek2] at * <;> omega) | exact h0 (by simp only [i_lt, i_le, i_eq, ne_eq, Int32.reduceToInt, b2_0, b2_1, decide_eq_true_eq, decide_eq_false_iff_not, Bool.not_eq_true, Bool.not_eq_false, ek, ek2] at * <;> omega)
  · -- pc 8
    refine wq_k 9 1 d51_8 (by decide) rfl ?_
    refine wq_g 13 d51_9 (by decide) ?_
    refine wq_ri d51_13 (rfl) ?_
    first | exact h1 (by simp only [i_lt, i_le, i_eq, ne_eq, Int32.reduceToInt, b2_0, b2_1, decide_eq_true_eq, decide_eq_false_iff_not, Bool.not_eq_true, Bool.not_eq_false, ek, ek2] at * <;> omega) | exact h0 (by simp only [i_lt, i_le, i_eq, ne_eq, Int32.reduceToInt, b2_0, b2_1, decide_eq_true_eq, decide_eq_false_iff_not, Bool.not_eq_true, Bool.not_eq_false, ek, ek2] at * <;> omega)
theorem pk52 {d : Nat} {T : pg_T} {n : Nat} {σ0 σ : pm_S} {c : pg_C} {l s : List pg_N} {Q : Option Value → pm_S → Prop} (hK : pc_K T n σ0) (hR : pc_R T n σ0 σ c l s) (hQ : Q (some (.int (nI (if 0 < c.1 then T.2.1 (c.1 - 1) else 0)))) σ) : pm_call pm_Y0 (d + 1) 52 [.ref 2] σ Q := by
  have hB : pc_B T n σ0 σ c (l ++ s) := hR
  obtain ⟨a1, a2⟩ := pc_a hK hB
  obtain ⟨r1, r2, r3, r4, r5, r6, r7, r8⟩ := hR
  have hn := hK.2.1
  have ec := nI_toInt (n := c.1) (by omega)
  have en := nI_toInt (n := n) (by omega)
  have e1 := nI_toInt (n := c.1 - 1) (by omega)
  refine wq_m m52 (Nat.le_of_ble_eq_true rfl) (by decide) rfl ?_
  refine wq_l 1 d52_0 rfl rfl rfl rfl ?_
  refine wq_gi (ci := 2) (j := 9) 4 d52_1 rfl rfl rfl rfl ?_
  rw [r3]
  refine wq_b 21 7 d52_4 rfl (by decide) rfl (fun c4 => ?_) (fun c4 => ?_)
  · -- pc 21
    rw [if_neg (by simp only [i_lt, i_le, i_eq, ne_eq, Int32.reduceToInt, b2_0, b2_1, decide_eq_true_eq, decide_eq_false_iff_not, Bool.not_eq_true, Bool.not_eq_false] at * <;> omega)] at hQ
    refine wq_k 22 0 d52_21 (by decide) rfl ?_
    refine wq_ri d52_22 (rfl) ?_
    exact hQ
  · -- pc 7
    have h0 : 0 < c.1 := (by simp only [i_lt, i_le, i_eq, ne_eq, Int32.reduceToInt, b2_0, b2_1, decide_eq_true_eq, decide_eq_false_iff_not, Bool.not_eq_true, Bool.not_eq_false] at * <;> omega)
    rw [if_pos h0] at hQ
    refine wq_l 8 d52_7 rfl rfl rfl rfl ?_
    refine wq_gr (ci := 2) (j := 3) (q := 17) 11 d52_8 rfl rfl rfl rfl ?_
    refine wq_l 12 d52_11 rfl rfl rfl rfl ?_
    refine wq_gi (ci := 2) (j := 9) 15 d52_12 rfl rfl rfl rfl ?_
    rw [r3]
    refine wq_k 16 1 d52_15 (by decide) rfl ?_
    refine wq_a 17 d52_16 rfl rfl ?_
    rw [show nI c.1 - 1 = nI (c.1 - 1) from pk_sub (b := 1) h0]
    refine wq_al 18 d52_17 rfl rfl rfl (vp_in_iff.mpr (by simp only [i_lt, i_le, i_eq, ne_eq, Int32.reduceToInt, b2_0, b2_1, decide_eq_true_eq, decide_eq_false_iff_not, Bool.not_eq_true, Bool.not_eq_false, e1] at * <;> omega)) ?_
    rw [nI_clamp (by omega), (a2 _ (by omega)).2.1]
    refine wq_g 22 d52_18 (by decide) ?_
    refine wq_ri d52_22 (rfl) ?_
    exact hQ
theorem pk53 {d : Nat} {T : pg_T} {n : Nat} {σ0 σ : pm_S} {c : pg_C} {l s : List pg_N} {Q : Option Value → pm_S → Prop} {k : Nat} (hK : pc_K T n σ0) (hk : k ≤ 68 ∧ k ≠ 44 ∧ k ≠ 45) (hR : pc_R T n σ0 σ c l s) (hQ : Q (some (.int (b2 (pg_next T k c)))) σ) : pm_call pm_Y0 (d + 1) 53 [.ref 2, .int (nI k)] σ Q := by
  have hB : pc_B T n σ0 σ c (l ++ s) := hR
  obtain ⟨a1, a2⟩ := pc_a hK hB
  obtain ⟨r1, r2, r3, r4, r5, r6, r7, r8⟩ := hR
  have hn := hK.2.1
  have ec := nI_toInt (n := c.1) (by omega)
  have en := nI_toInt (n := n) (by omega)
  have e1 := nI_toInt (n := c.1 + 1) (by omega)
  have hT1 := (hK.2.2.2.2.2.2 (c.1 + 1)).1
  have ek := nI_toInt (n := T.1 (c.1 + 1)) (by omega)
  have ek2 := nI_toInt (n := k) (by omega)
  have hE : n ≤ c.1 + 1 → ¬ T.1 (c.1 + 1) = k := fun h z => by
    rcases hK.2.2.2.2.2.1 (c.1 + 1) (by omega) with w | w <;> omega
  have h1 : T.1 (c.1 + 1) = k → Q (some (.int 1)) σ := fun h => by rw [show pg_next T k c = true from by unfold pg_next; simpa using h] at hQ; exact hQ
  have h0 : ¬ T.1 (c.1 + 1) = k → Q (some (.int 0)) σ := fun h => by rw [show pg_next T k c = false from by unfold pg_next; simpa using h] at hQ; exact hQ
  refine wq_m m53 (Nat.le_of_ble_eq_true rfl) (by decide) rfl ?_
  refine wq_l 1 d53_0 rfl rfl rfl rfl ?_
  refine wq_gi (ci := 2) (j := 9) 4 d53_1 rfl rfl rfl rfl ?_
  rw [r3]
  refine wq_k 5 1 d53_4 (by decide) rfl ?_
  refine wq_a 6 d53_5 rfl rfl ?_
  rw [show nI c.1 + 1 = nI (c.1 + 1) from (nI_succ _).symm]
  refine wq_l 7 d53_6 rfl rfl rfl rfl ?_
  refine wq_gi (ci := 2) (j := 5) 10 d53_7 rfl rfl rfl rfl ?_
  rw [a1]
  refine wq_b 32 13 d53_10 rfl (by decide) rfl (fun c10 => ?_) (fun c10 => ?_)
  · -- pc 32
    refine wq_k 33 0 d53_32 (by decide) rfl ?_
    refine wq_ri d53_33 (rfl) ?_
    first | exact h1 (by have z := c25; simp only [i_lt, i_le, i_eq, ne_eq, Int32.reduceToInt, b2_0, b2_1, decide_eq_true_eq, decide_eq_false_iff_not, Bool.not_eq_true, Bool.not_eq_false, ek, ek2] at z; omega) | exact h0 (by have z := c25; simp only [i_lt, i_le, i_eq, ne_eq, Int32.reduceToInt, b2_0, b2_1, decide_eq_true_eq, decide_eq_false_iff_not, Bool.not_eq_true, Bool.not_eq_false, ek, ek2] at z; omega) | exact h0 (hE (by simp only [i_lt, i_le, i_eq, ne_eq, Int32.reduceToInt, b2_0, b2_1, decide_eq_true_eq, decide_eq_false_iff_not, Bool.not_eq_true, Bool.not_eq_false, e1] at * <;> omega))
  · -- pc 13
    refine wq_l 14 d53_13 rfl rfl rfl rfl ?_
    refine wq_gr (ci := 2) (j := 2) (q := 16) 17 d53_14 rfl rfl rfl rfl ?_
    refine wq_l 18 d53_17 rfl rfl rfl rfl ?_
    refine wq_gi (ci := 2) (j := 9) 21 d53_18 rfl rfl rfl rfl ?_
    rw [r3]
    refine wq_k 22 1 d53_21 (by decide) rfl ?_
    refine wq_a 23 d53_22 rfl rfl ?_
    rw [show nI c.1 + 1 = nI (c.1 + 1) from (nI_succ _).symm]
    refine wq_al 24 d53_23 rfl rfl rfl (vp_in_iff.mpr (by simp only [i_lt, i_le, i_eq, ne_eq, Int32.reduceToInt, b2_0, b2_1, decide_eq_true_eq, decide_eq_false_iff_not, Bool.not_eq_true, Bool.not_eq_false, e1] at * <;> omega)) ?_
    rw [nI_clamp (by omega), (a2 _ (by simp only [i_lt, i_le, i_eq, ne_eq, Int32.reduceToInt, b2_0, b2_1, decide_eq_true_eq, decide_eq_false_iff_not, Bool.not_eq_true, Bool.not_eq_false, e1] at * <;> omega)).1]
    refine wq_l 25 d53_24 rfl rfl rfl rfl ?_
    refine wq_b 32 28 d53_25 rfl (by decide) rfl (fun c25 => ?_) (fun c25 => ?_)
    · -- pc 32
      refine wq_k 33 0 d53_32 (by decide) rfl ?_
      refine wq_ri d53_33 (rfl) ?_
      first | exact h1 (by have z := c25; simp only [i_lt, i_le, i_eq, ne_eq, Int32.reduceToInt, b2_0, b2_1, decide_eq_true_eq, decide_eq_false_iff_not, Bool.not_eq_true, Bool.not_eq_false, ek, ek2] at z; omega) | exact h0 (by have z := c25; simp only [i_lt, i_le, i_eq, ne_eq, Int32.reduceToInt, b2_0, b2_1, decide_eq_true_eq, decide_eq_false_iff_not, Bool.not_eq_true, Bool.not_eq_false, ek, ek2] at z; omega) | exact h0 (hE (by simp only [i_lt, i_le, i_eq, ne_eq, Int32.reduceToInt, b2_0, b2_1, decide_eq_true_eq, decide_eq_false_iff_not, Bool.not_eq_true, Bool.not_eq_false, e1] at * <;> omega))
    · -- pc 28
      refine wq_k 29 1 d53_28 (by decide) rfl ?_
      refine wq_g 33 d53_29 (by decide) ?_
      refine wq_ri d53_33 (rfl) ?_
      first | exact h1 (by have z := c25; simp only [i_lt, i_le, i_eq, ne_eq, Int32.reduceToInt, b2_0, b2_1, decide_eq_true_eq, decide_eq_false_iff_not, Bool.not_eq_true, Bool.not_eq_false, ek, ek2] at z; omega) | exact h0 (by have z := c25; simp only [i_lt, i_le, i_eq, ne_eq, Int32.reduceToInt, b2_0, b2_1, decide_eq_true_eq, decide_eq_false_iff_not, Bool.not_eq_true, Bool.not_eq_false, ek, ek2] at z; omega) | exact h0 (hE (by simp only [i_lt, i_le, i_eq, ne_eq, Int32.reduceToInt, b2_0, b2_1, decide_eq_true_eq, decide_eq_false_iff_not, Bool.not_eq_true, Bool.not_eq_false, e1] at * <;> omega))
