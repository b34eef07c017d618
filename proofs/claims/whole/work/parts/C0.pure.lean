/-! THE WALK'S INVARIANT: what a step changes of the blocks -/
theorem rl_call1 {l : List pg_N} {A : rl_A} {i : Nat} : (rl_call l A i).2.1 = A.1 ∧ (rl_call l A i).1 < 2 ^ 20 := by
  cases h : rl_fn (rl_v l i) with
  | some f =>
    rw [rl_call_f h]
    by_cases a : (rl_c l i).length ≠ rl_ops f
    · rw [if_pos a]; exact ⟨rfl, Nat.le_of_ble_eq_true rfl⟩
    · rw [if_neg a]
      by_cases b : rl_std f (rl_tyc l A i 0) (rl_tyc l A i 1) (rl_tyc l A i 2) = -1
      · rw [if_pos b]; exact ⟨rfl, Nat.le_of_ble_eq_true rfl⟩
      · rw [if_neg b]; exact ⟨rfl, Nat.le_of_ble_eq_true rfl⟩
  | none =>
    cases h2 : rl_own A.1.tail (rl_v l i) with
    | none => rw [rl_call_n h h2]; exact ⟨rfl, Nat.le_of_ble_eq_true rfl⟩
    | some w =>
      obtain ⟨b, y⟩ := w
      rw [rl_call_o h h2]
      by_cases a : y.1 ≠ 1
      · rw [if_pos a]; exact ⟨rfl, Nat.le_of_ble_eq_true rfl⟩
      · rw [if_neg a]
        by_cases c : (rl_c l i).length ≠ rl_nin y
        · rw [if_pos c]; exact ⟨rfl, Nat.le_of_ble_eq_true rfl⟩
        · rw [if_neg c]
          by_cases e : (((rl_c l i).zip (rl_ins y)).all (fun p => rl_fits (A.2.1 p.1) p.2)) = false
          · rw [if_pos e]; exact ⟨rfl, Nat.le_of_ble_eq_true rfl⟩
          · rw [if_neg e]; exact ⟨rfl, Nat.le_of_ble_eq_true rfl⟩
theorem rl_srtl {A : rl_A} {x : Int32} {s : Nat} : rl_srt A x s ≤ 21 := by
  cases h : rl_find (rl_cur A).2.2.2.2 x with
  | none => rw [rl_srn h]; decide
  | some v =>
    rw [rl_srs h]
    by_cases q : v.2.1 = s
    · rw [if_pos q]; decide
    · rw [if_neg q]; decide
theorem rl_for1 {l : List pg_N} {A : rl_A} {i : Nat} : (rl_for l A i).2.1 = A.1 ∧ (rl_for l A i).1 < 2 ^ 20 := by
  rw [rl_for_u]
  have h1 := rl_srtl (A := A) (x := rl_v l i) (s := 0)
  have h2 := rl_asgl (l := l) (A := A) (i := i) (x := rl_v l i)
  by_cases a : rl_srt A (rl_v l i) 0 ≠ 0
  · rw [if_pos a]; exact ⟨rfl, by show rl_srt A (rl_v l i) 0 < _; omega⟩
  · rw [if_neg a]
    by_cases b : (rl_var A (rl_v l i)).2.2.1 = 0
    · rw [if_pos b]; exact ⟨rfl, Nat.le_of_ble_eq_true rfl⟩
    · rw [if_neg b]
      by_cases c : rl_asg l A i (rl_v l i) ≠ 0
      · rw [if_pos c]; exact ⟨rfl, by show rl_asg l A i (rl_v l i) < _; omega⟩
      · rw [if_neg c]
        by_cases e : rl_lc l i (rl_var A (rl_v l i)).2.2.1
        · rw [if_pos e]; exact ⟨rfl, Nat.le_of_ble_eq_true rfl⟩
        · rw [if_neg e]; exact ⟨rfl, Nat.le_of_ble_eq_true rfl⟩
theorem rl_par1 {l : List pg_N} {A : rl_A} {i : Nat} : (rl_par14 l A i).2.1 = A.1 ∧ (rl_par14 l A i).1 < 2 ^ 20 := by
  rw [rl_par14_u rfl]
  by_cases a : rl_srt A (rl_v l (rl_par l i)) 2 ≠ 0
  · rw [if_pos a]; exact ⟨rfl, Nat.le_of_ble_eq_true rfl⟩
  · rw [if_neg a]
    cases h : rl_pin A.1 (rl_var A (rl_v l (rl_par l i))).2.2.1.toNatClampNeg (rl_v l i) with
    | none => exact ⟨rfl, Nat.le_of_ble_eq_true rfl⟩
    | some w =>
      obtain ⟨p, t, c⟩ := w
      dsimp only
      by_cases b : p ≠ 1
      · rw [if_pos b]; exact ⟨rfl, Nat.le_of_ble_eq_true rfl⟩
      · rw [if_neg b]
        by_cases e : ((rl_c l (rl_par l i)).takeWhile (fun j => decide (j < i))).any (fun j => decide (rl_v l j = rl_v l i)) = true
        · rw [if_pos e]; exact ⟨rfl, Nat.le_of_ble_eq_true rfl⟩
        · rw [if_neg e]
          by_cases f : rl_fits (A.2.1 (i + 1)) t = false
          · rw [if_pos f]; exact ⟨rfl, Nat.le_of_ble_eq_true rfl⟩
          · rw [if_neg f]; exact ⟨rfl, Nat.le_of_ble_eq_true rfl⟩
theorem rl_ou1 {l : List pg_N} {A : rl_A} {i : Nat} (hk : rl_k l i = 33) : (rl_out l A i).2.1 = A.1 ∧ (rl_out l A i).1 < 2 ^ 20 := by
  rw [rl_o33 hk]
  have h1 := rl_srtl (A := A) (x := rl_v l i) (s := 2)
  by_cases a : rl_srt A (rl_v l i) 2 ≠ 0
  · rw [if_pos a]; exact ⟨rfl, by show rl_srt A (rl_v l i) 2 < _; omega⟩
  · rw [if_neg a]
    cases h : rl_pin A.1 (rl_var A (rl_v l i)).2.2.1.toNatClampNeg (rl_v l (i + 1)) with
    | none => exact ⟨rfl, Nat.le_of_ble_eq_true rfl⟩
    | some w =>
      obtain ⟨p, t, c⟩ := w
      dsimp only
      by_cases b : p ≠ 2
      · rw [if_pos b]; exact ⟨rfl, Nat.le_of_ble_eq_true rfl⟩
      · rw [if_neg b]; exact ⟨rfl, Nat.le_of_ble_eq_true rfl⟩
theorem rl_ou2 {l : List pg_N} {A : rl_A} {i : Nat} (hk : rl_k l i = 35) : (rl_out l A i).2.1 = A.1 ∧ (rl_out l A i).1 < 2 ^ 20 := by
  rw [rl_o35 hk]
  by_cases a : (if (rl_v l i).toInt ≤ 4 then rl_com (A.2.1 (i + 1)) (A.2.1 ((rl_c l i).getD 1 0)) else rl_wid (A.2.1 (i + 1)) (A.2.1 ((rl_c l i).getD 1 0))) = -1
  · rw [if_pos a]; exact ⟨rfl, Nat.le_of_ble_eq_true rfl⟩
  · rw [if_neg a]; exact ⟨rfl, Nat.le_of_ble_eq_true rfl⟩
theorem ite_20 {c : Prop} {a b : Nat} [Decidable c] (ha : a < 2 ^ 20) (hb : b < 2 ^ 20) : (if c then a else b) < 2 ^ 20 := by
  by_cases q : c
  · rw [if_pos q]; exact ha
  · rw [if_neg q]; exact hb
/-- the blocks stay as they are -/
theorem rl_oA {l : List pg_N} {A : rl_A} {i : Nat} (hl : rl_k l i ≤ 36) (h5 : rl_k l i ≠ 5) (h7 : rl_k l i ≠ 7) (h22 : rl_k l i ≠ 22) (h6 : rl_k l i = 6 → rl_k l (rl_par l i) ≠ 5) : (rl_out l A i).2.1 = A.1 ∧ (rl_out l A i).1 < 2 ^ 20 := by
  have Z : (0 : Nat) < 2 ^ 20 := Nat.le_of_ble_eq_true rfl
  have L : ∀ n : Nat, n ≤ 50 → n < 2 ^ 20 := fun n h => by omega
  have h1 := fun x s => rl_srtl (A := A) (x := x) (s := s)
  have h2 := fun x => rl_asgl (l := l) (A := A) (i := i) (x := x)
  have cs : rl_k l i = 0 ∨ rl_k l i = 1 ∨ rl_k l i = 4 ∨ rl_k l i = 6 ∨ rl_k l i = 8 ∨ rl_k l i = 9 ∨ rl_k l i = 10 ∨ rl_k l i = 12 ∨ rl_k l i = 13 ∨ rl_k l i = 14 ∨ rl_k l i = 15 ∨ rl_k l i = 16 ∨ rl_k l i = 18 ∨ rl_k l i = 19 ∨ rl_k l i = 20 ∨ rl_k l i = 23 ∨ rl_k l i = 25 ∨ rl_k l i = 28 ∨ rl_k l i = 29 ∨ rl_k l i = 30 ∨ rl_k l i = 31 ∨ rl_k l i = 32 ∨ rl_k l i = 33 ∨ rl_k l i = 34 ∨ rl_k l i = 35 ∨ rl_k l i = 36 ∨ (rl_k l i = 2 ∨ rl_k l i = 3 ∨ rl_k l i = 11 ∨ rl_k l i = 17 ∨ rl_k l i = 21 ∨ rl_k l i = 24 ∨ rl_k l i = 26 ∨ rl_k l i = 27) := by omega
  rcases cs with q | q | q | q | q | q | q | q | q | q | q | q | q | q | q | q | q | q | q | q | q | q | q | q | q | q | q
  · rw [rl_o0 q]; exact ⟨rfl, ite_20 (L 10 (by decide)) (ite_20 (L 42 (by decide)) Z)⟩
  · rw [rl_o1 q]; exact ⟨rfl, ite_20 (L 44 (by decide)) Z⟩
  · rw [rl_o4 q]; exact ⟨rfl, ite_20 (L 13 (by decide)) Z⟩
  · rw [rl_o6 q, if_neg (h6 q)]
    by_cases a : rl_k l (rl_par l i) = 33
    · rw [if_pos a]; exact ⟨rfl, Z⟩
    · rw [if_neg a]; exact ⟨rfl, L _ (Nat.le_trans (h1 _ _) (by decide))⟩
  · rw [rl_o8 q]; exact ⟨rfl, Z⟩
  · rw [rl_o9 q]; exact ⟨rfl, ite_20 (L 16 (by decide)) Z⟩
  · rw [rl_o10 q]; exact ⟨rfl, ite_20 (L 17 (by decide)) Z⟩
  · rw [rl_o12 q]; exact ⟨rfl, ite_20 (L _ (Nat.le_trans (h2 _) (by decide))) (ite_20 Z (L 31 (by decide)))⟩
  · rw [rl_o13 q]; exact ⟨rfl, L _ (Nat.le_trans (h1 _ _) (by decide))⟩
  · rw [rl_o14 q]; exact rl_par1
  · rw [rl_o15 q]; exact ⟨rfl, ite_20 Z (L 34 (by decide))⟩
  · rw [rl_o16 q]; exact ⟨rfl, ite_20 Z (L 34 (by decide))⟩
  · rw [rl_o18 q]; exact ⟨rfl, ite_20 (L 35 (by decide)) Z⟩
  · rw [rl_o19 q]; exact rl_for1
  · rw [rl_o20 q]; exact ⟨rfl, ite_20 Z (L 37 (by decide))⟩
  · rw [rl_o23 q]; exact ⟨rfl, ite_20 Z (L 38 (by decide))⟩
  · rw [rl_o25 q]; exact ⟨rfl, ite_20 Z (L 41 (by decide))⟩
  · rw [rl_o28 q]; exact ⟨rfl, ite_20 (L 39 (by decide)) (ite_20 (L 41 (by decide)) (L _ (Nat.le_trans (h2 _) (by decide))))⟩
  · rw [rl_o29 q]; exact ⟨rfl, ite_20 (L 40 (by decide)) Z⟩
  · rw [rl_o30 q]; exact ⟨rfl, Z⟩
  · rw [rl_o31 q]; exact ⟨rfl, Z⟩
  · rw [rl_o32 q]; exact ⟨rfl, ite_20 (L _ (Nat.le_trans (h1 _ _) (by decide))) (ite_20 Z (L 22 (by decide)))⟩
  · exact rl_ou1 q
  · rw [rl_o34 q]; exact rl_call1
  · exact rl_ou2 q
  · rw [rl_o36 q]; exact ⟨rfl, ite_20 (L 28 (by decide)) Z⟩
  · rw [rl_on q]; exact ⟨rfl, Z⟩
/-- all faults are small -/
theorem rl_oL {l : List pg_N} {NN : Nat} (hG : lg_G l NN) (A : rl_A) (i : Nat) (hi : i < l.length) : (rl_out l A i).1 < 2 ^ 20 := by
  have kl := (lg_V hG hi).1
  have L : ∀ n : Nat, n ≤ 50 → n < 2 ^ 20 := fun n h => by omega
  by_cases h5 : rl_k l i = 5
  · rw [rl_o5 h5]
    obtain ⟨m, hp, y, cs, D⟩ := lg_5 hG hi h5
    rw [rl_decl_u D]
    repeat' (first | (rw [if_pos (by assumption)]; exact Nat.le_of_ble_eq_true rfl) | split)
    all_goals exact Nat.le_of_ble_eq_true rfl
  · by_cases h7 : rl_k l i = 7
    · rw [rl_o7 h7]; exact ite_20 (L 14 (by decide)) (L 0 (by decide))
    · by_cases h22 : rl_k l i = 22
      · rw [rl_o22 h22]; exact L 0 (by decide)
      · by_cases h6 : rl_k l i = 6 ∧ rl_k l (rl_par l i) = 5
        · rw [rl_o6 h6.1, if_pos h6.2]
          by_cases a : (rl_find (rl_cur A).2.2.2.2 (rl_v l i)).isSome = true ∨ rl_taken A (rl_v l i) = true
          · rw [if_pos a]; exact L 12 (by decide)
          · rw [if_neg a]; exact L 0 (by decide)
        · exact (rl_oA kl h5 h7 h22 (fun q w => h6 ⟨q, w⟩)).2
