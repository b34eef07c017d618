theorem d141_0 : decode prog_7_method_3_code 0 = .ok (.aload_n 0, 1) := by decide +kernel
theorem d141_1 : decode prog_7_method_3_code 1 = .ok (.getfield 19, 3) := by decide +kernel
theorem d141_4 : decode prog_7_method_3_code 4 = .ok (.aload_n 0, 1) := by decide +kernel
theorem d141_5 : decode prog_7_method_3_code 5 = .ok (.getfield 15, 3) := by decide +kernel
theorem d141_8 : decode prog_7_method_3_code 8 = .ok (.invokevirtual 56, 3) := by decide +kernel
theorem d141_11 : decode prog_7_method_3_code 11 = .ok (.invokevirtual 62, 3) := by decide +kernel
theorem d141_14 : decode prog_7_method_3_code 14 = .ok (.aload_n 0, 1) := by decide +kernel
theorem d141_15 : decode prog_7_method_3_code 15 = .ok (.getfield 48, 3) := by decide +kernel
theorem d141_18 : decode prog_7_method_3_code 18 = .ok (.iconst 0, 1) := by decide +kernel
theorem d141_19 : decode prog_7_method_3_code 19 = .ok (.invokestatic 66, 3) := by decide +kernel
theorem d141_22 : decode prog_7_method_3_code 22 = .ok (.iconst (-1), 1) := by decide +kernel
theorem d141_23 : decode prog_7_method_3_code 23 = .ok (.istore_n 1, 1) := by decide +kernel
theorem d141_24 : decode prog_7_method_3_code 24 = .ok (.iconst 0, 1) := by decide +kernel
theorem d141_25 : decode prog_7_method_3_code 25 = .ok (.istore_n 2, 1) := by decide +kernel
theorem d141_26 : decode prog_7_method_3_code 26 = .ok (.iconst 0, 1) := by decide +kernel
theorem d141_27 : decode prog_7_method_3_code 27 = .ok (.istore_n 3, 1) := by decide +kernel
theorem d141_28 : decode prog_7_method_3_code 28 = .ok (.iload_n 3, 1) := by decide +kernel
theorem d141_29 : decode prog_7_method_3_code 29 = .ok (.iconst 2, 1) := by decide +kernel
theorem d141_30 : decode prog_7_method_3_code 30 = .ok (.aload_n 0, 1) := by decide +kernel
theorem d141_31 : decode prog_7_method_3_code 31 = .ok (.getfield 9, 3) := by decide +kernel
theorem d141_34 : decode prog_7_method_3_code 34 = .ok (.invokevirtual 72, 3) := by decide +kernel
theorem d141_37 : decode prog_7_method_3_code 37 = .ok (.imul, 1) := by decide +kernel
theorem d141_38 : decode prog_7_method_3_code 38 = .ok (.if_icmp .ge 93, 3) := by decide +kernel
theorem d141_41 : decode prog_7_method_3_code 41 = .ok (.iload_n 1, 1) := by decide +kernel
theorem d141_42 : decode prog_7_method_3_code 42 = .ok (.istore 4, 2) := by decide +kernel
theorem d141_44 : decode prog_7_method_3_code 44 = .ok (.iload_n 2, 1) := by decide +kernel
theorem d141_45 : decode prog_7_method_3_code 45 = .ok (.aload_n 0, 1) := by decide +kernel
theorem d141_46 : decode prog_7_method_3_code 46 = .ok (.getfield 9, 3) := by decide +kernel
theorem d141_49 : decode prog_7_method_3_code 49 = .ok (.iload_n 1, 1) := by decide +kernel
theorem d141_50 : decode prog_7_method_3_code 50 = .ok (.invokevirtual 75, 3) := by decide +kernel
theorem d141_53 : decode prog_7_method_3_code 53 = .ok (.if_icmp .ge 33, 3) := by decide +kernel
theorem d141_56 : decode prog_7_method_3_code 56 = .ok (.iload_n 2, 1) := by decide +kernel
theorem d141_57 : decode prog_7_method_3_code 57 = .ok (.istore 4, 2) := by decide +kernel
theorem d141_59 : decode prog_7_method_3_code 59 = .ok (.iinc 2 1, 3) := by decide +kernel
theorem d141_62 : decode prog_7_method_3_code 62 = .ok (.aload_n 0, 1) := by decide +kernel
theorem d141_63 : decode prog_7_method_3_code 63 = .ok (.getfield 9, 3) := by decide +kernel
theorem d141_66 : decode prog_7_method_3_code 66 = .ok (.iload 4, 2) := by decide +kernel
theorem d141_68 : decode prog_7_method_3_code 68 = .ok (.iload_n 1, 1) := by decide +kernel
theorem d141_69 : decode prog_7_method_3_code 69 = .ok (.invokevirtual 79, 3) := by decide +kernel
theorem d141_72 : decode prog_7_method_3_code 72 = .ok (.iload 4, 2) := by decide +kernel
theorem d141_74 : decode prog_7_method_3_code 74 = .ok (.istore_n 1, 1) := by decide +kernel
theorem d141_75 : decode prog_7_method_3_code 75 = .ok (.aload_n 0, 1) := by decide +kernel
theorem d141_76 : decode prog_7_method_3_code 76 = .ok (.iload 4, 2) := by decide +kernel
theorem d141_78 : decode prog_7_method_3_code 78 = .ok (.invokevirtual 83, 3) := by decide +kernel
theorem d141_81 : decode prog_7_method_3_code 81 = .ok (.istore 5, 2) := by decide +kernel
theorem d141_83 : decode prog_7_method_3_code 83 = .ok (.goto 21, 3) := by decide +kernel
theorem d141_86 : decode prog_7_method_3_code 86 = .ok (.aload_n 0, 1) := by decide +kernel
theorem d141_87 : decode prog_7_method_3_code 87 = .ok (.getfield 9, 3) := by decide +kernel
theorem d141_90 : decode prog_7_method_3_code 90 = .ok (.iload 4, 2) := by decide +kernel
theorem d141_92 : decode prog_7_method_3_code 92 = .ok (.invokevirtual 86, 3) := by decide +kernel
theorem d141_95 : decode prog_7_method_3_code 95 = .ok (.istore_n 1, 1) := by decide +kernel
theorem d141_96 : decode prog_7_method_3_code 96 = .ok (.aload_n 0, 1) := by decide +kernel
theorem d141_97 : decode prog_7_method_3_code 97 = .ok (.iload 4, 2) := by decide +kernel
theorem d141_99 : decode prog_7_method_3_code 99 = .ok (.invokevirtual 89, 3) := by decide +kernel
theorem d141_102 : decode prog_7_method_3_code 102 = .ok (.istore 5, 2) := by decide +kernel
theorem d141_104 : decode prog_7_method_3_code 104 = .ok (.iload 5, 2) := by decide +kernel
theorem d141_106 : decode prog_7_method_3_code 106 = .ok (.ifCond .eq 19, 3) := by decide +kernel
theorem d141_109 : decode prog_7_method_3_code 109 = .ok (.aload_n 0, 1) := by decide +kernel
theorem d141_110 : decode prog_7_method_3_code 110 = .ok (.aload_n 0, 1) := by decide +kernel
theorem d141_111 : decode prog_7_method_3_code 111 = .ok (.getfield 9, 3) := by decide +kernel
theorem d141_114 : decode prog_7_method_3_code 114 = .ok (.iload 4, 2) := by decide +kernel
theorem d141_116 : decode prog_7_method_3_code 116 = .ok (.invokevirtual 92, 3) := by decide +kernel
theorem d141_119 : decode prog_7_method_3_code 119 = .ok (.putfield 52, 3) := by decide +kernel
theorem d141_122 : decode prog_7_method_3_code 122 = .ok (.iload 5, 2) := by decide +kernel
theorem d141_124 : decode prog_7_method_3_code 124 = .ok (.ireturn, 1) := by decide +kernel
theorem d141_125 : decode prog_7_method_3_code 125 = .ok (.iinc 3 1, 3) := by decide +kernel
theorem d141_128 : decode prog_7_method_3_code 128 = .ok (.goto (-100), 3) := by decide +kernel
theorem d141_131 : decode prog_7_method_3_code 131 = .ok (.iconst 0, 1) := by decide +kernel
theorem d141_132 : decode prog_7_method_3_code 132 = .ok (.ireturn, 1) := by decide +kernel
theorem m141 : pm_m 141 = some (⟨"TypeRules$Rules", "firstFault", "()I"⟩, prog_7_method_3_code, 6, (some FieldType.int), 7, 0, 8) := rfl
/-! THE WALK of the class -/
/-- the way of the walk: what is open, what comes next -/
def pi_G (l : List pg_N) (o : Option Nat) (nx : Nat) : Prop := match o with
  | none => nx = 0 ∨ nx = l.length
  | some i => i < l.length ∧ i < nx ∧ nx ≤ i + rl_z l i ∧ (nx < i + rl_z l i → nx ∈ rl_c l i)
def pi_d (l : List pg_N) (o : Option Nat) : Nat := match o with
  | none => 0
  | some i => (rl_up l i).length + 1
theorem rl_nxc {l : List pg_N} {NN p i : Nat} (hG : lg_G l NN) (hp : p < l.length) (h : i ∈ rl_c l p) (hz : i + rl_z l i < p + rl_z l p) : i + rl_z l i ∈ rl_c l p := by
  obtain ⟨z1, z2, z3⟩ := lg_cl hG hp
  have key : ∀ (n s : Nat), p + rl_z l p - s ≤ n → rl_cl l s (p + rl_z l p) → i ∈ rl_row l s (p + rl_z l p) → i + rl_z l i ∈ rl_row l s (p + rl_z l p) := by
    intro n
    induction n with
    | zero =>
      intro s hn hc hm
      rw [rl_row0 (by omega)] at hm
      exact absurd hm List.not_mem_nil
    | succ n ih =>
      intro s hn hc hm
      by_cases q : s < p + rl_z l p
      · obtain ⟨c1, c2, c3⟩ := rl_clz hc q
        rw [rl_rowu z1 hc q] at hm ⊢
        rcases List.mem_cons.mp hm with w | w
        · subst w
          rw [rl_rowu z1 c3 hz]
          exact List.mem_cons_of_mem _ (List.mem_cons_self ..)
        · exact List.mem_cons_of_mem _ (ih _ (by omega) c3 w)
      · rw [rl_row0 q] at hm
        exact absurd hm List.not_mem_nil
  exact key _ _ (Nat.le_refl _) z3 h
theorem rl_fc {l : List pg_N} {NN i : Nat} (hG : lg_G l NN) (hi : i < l.length) (h : i + 1 < i + rl_z l i) : i + 1 ∈ rl_c l i := by
  obtain ⟨z1, z2, z3⟩ := lg_cl hG hi
  rw [rl_crow, rl_rowu z1 z3 h]
  exact List.mem_cons_self ..
/-- entering: the way goes on, and one step is counted -/
theorem pi_in {l : List pg_N} {NN nx : Nat} {o : Option Nat} (hG : lg_G l NN) (h : pi_G l o nx) (hn : nx < rl_end l o) : nx < l.length ∧ (rl_up l nx).head? = o ∧ pi_G l (some nx) (nx + 1) ∧ pi_d l (some nx) = pi_d l o + 1 := by
  cases o with
  | none =>
    have hn : nx < l.length := hn
    have h : nx = 0 ∨ nx = l.length := h
    have h0 : nx = 0 := by omega
    subst h0
    have z := (rl_zc hG.1 hn)
    exact ⟨hn, rfl, ⟨hn, by omega, by omega, fun q => rl_fc hG hn q⟩, rfl⟩
  | some i =>
    obtain ⟨h1, h2, h3, h4⟩ := h
    have hn : nx < i + rl_z l i := hn
    have hc := h4 hn
    have z := (rl_zc hG.1 h1).2
    have hl : nx < l.length := by omega
    have zn := rl_zc hG.1 hl
    have u := rl_upc hG.1 h1 hc
    refine ⟨hl, by rw [u]; rfl, ⟨hl, by omega, by omega, fun q => rl_fc hG hl q⟩, ?_⟩
    show (rl_up l nx).length + 1 = (rl_up l i).length + 1 + 1
    rw [u, List.length_cons]
theorem pi_out {l : List pg_N} {NN nx i : Nat} (hG : lg_G l NN) (h : pi_G l (some i) nx) (hn : ¬ nx < i + rl_z l i) : i < l.length ∧ i < nx ∧ nx = i + rl_z l i ∧ pi_G l (rl_up l i).head? nx ∧ pi_d l (some i) = pi_d l (rl_up l i).head? + 1 ∧ (i = 0 → nx = l.length) := by
  obtain ⟨h1, h2, h3, h4⟩ := h
  have hnx : nx = i + rl_z l i := by omega
  refine ⟨h1, h2, hnx, ?_, ?_, fun z => by rw [hnx, z, hG.2.1]; omega⟩
  · rcases Nat.eq_zero_or_pos i with w | w
    · subst w
      rw [rl_up0]
      right
      rw [hnx, hG.2.1]; omega
    · obtain ⟨p1, p2, p3⟩ := lg_par hG h1 w
      rw [p3]
      have hp : rl_par l i < l.length := by omega
      have zz := (rl_cm p2).2
      have cl := (rl_zl hG.1 hp p1 zz)
      refine ⟨hp, by omega, by omega, fun q => ?_⟩
      rw [hnx] at q ⊢
      exact rl_nxc hG hp p2 q
  · rcases Nat.eq_zero_or_pos i with w | w
    · subst w; rfl
    · obtain ⟨u1, u2⟩ := rl_upu hG h1 w
      obtain ⟨p1, p2, p3⟩ := lg_par hG h1 w
      rw [p3]
      show (rl_up l i).length + 1 = (rl_up l (rl_par l i)).length + 1 + 1
      rw [u1, List.length_cons]
/-- what is known as a node is entered -/
def cx_E (l : List pg_N) (A : rl_A) (i : Nat) : Prop := (¬ (1 ≤ rl_k l i ∧ rl_k l i ≤ 3) → rl_k l i ≠ 0 → A.1 ≠ []) ∧ (1 ≤ rl_k l i ∧ rl_k l i ≤ 3 → A.1.length < 409) ∧ (rl_k l i = 1 → (cv_L A.1).length < 4128) ∧ (1 ≤ rl_k l i ∧ rl_k l i ≤ 3 → ¬ (rl_cur A).1 = 3 → ∀ v ∈ (rl_cur A).2.2.2.2, v.2.2.2.2.1 = -1)
/-- an invariant of the walk that says what the rules need -/
def pi_W (l : List pg_N) (I : rl_W → Prop) : Prop := (∀ w, I w → pi_G l w.1 w.2.1) ∧ (∀ w, I w → w.2.1 < rl_end l w.1 → cx_E l w.2.2 w.2.1) ∧ (∀ i nx A, I (some i, nx, A) → ¬ nx < i + rl_z l i → (i ≠ 0 → cx_L l A i) ∧ (i = 0 → pv_B A.1 ∧ rl_all A.1 < 2 ^ 30)) ∧ ∀ w, I w → (rl_step l w).1 = 0 → I (rl_step l w).2.2
theorem rl_runs {l : List pg_N} {n : Nat} {w : rl_W} (h : (rl_step l w).1 ≠ 0) : rl_run l (n + 1) w = rl_step l w := by
  show (if (rl_step l w).1 ≠ 0 then rl_step l w else rl_run l n (rl_step l w).2.2) = _
  rw [if_pos h]
theorem rl_runc {l : List pg_N} {n : Nat} {w : rl_W} (h : (rl_step l w).1 = 0) : rl_run l (n + 1) w = rl_run l n (rl_step l w).2.2 := by
  show (if (rl_step l w).1 ≠ 0 then rl_step l w else rl_run l n (rl_step l w).2.2) = _
  rw [if_neg (fun z => z h)]
theorem rl_sti {l : List pg_N} {o : Option Nat} {nx : Nat} {A : rl_A} (h : nx < rl_end l o) : rl_step l (o, nx, A) = ((rl_in l A nx).1, nx, some nx, nx + 1, (rl_in l A nx).2) := if_pos h
theorem rl_sto {l : List pg_N} {i nx : Nat} {A : rl_A} (h : ¬ nx < i + rl_z l i) : rl_step l (some i, nx, A) = ((rl_out l A i).1, i, (rl_up l i).head?, nx, (rl_out l A i).2) := if_neg h
theorem rl_inl (l : List pg_N) (A : rl_A) (i : Nat) : (rl_in l A i).1 < 2 ^ 20 := by
  by_cases q : 1 ≤ rl_k l i ∧ rl_k l i ≤ 3
  · rw [rl_in_b q]
    by_cases a : (rl_cur A).1 = 3
    · rw [if_pos a]; exact Nat.le_of_ble_eq_true rfl
    · rw [if_neg a]
      by_cases b : rl_taken A (rl_v l i) = true
      · rw [if_pos b]; exact Nat.le_of_ble_eq_true rfl
      · rw [if_neg b]; exact Nat.le_of_ble_eq_true rfl
  · rw [rl_in_o q]
    by_cases a : rl_k l i = 16
    · rw [if_pos a]; exact Nat.le_of_ble_eq_true rfl
    · rw [if_neg a]
      by_cases b : rl_k l i = 19
      · rw [if_pos b]; exact Nat.le_of_ble_eq_true rfl
      · rw [if_neg b]
        by_cases c : rl_k l i = 25 ∧ 2 ≤ (rl_v l i).toInt
        · rw [if_pos c]; exact Nat.le_of_ble_eq_true rfl
        · rw [if_neg c]; exact Nat.le_of_ble_eq_true rfl
def cr_X (l : List pg_N) (σ0 σ : pm_S) (r : Nat × Nat × rl_W) : Prop := cc_F σ0 σ ∧ (∃ c, c ≤ 418 ∧ σ.1 5 8 = nI c) ∧ (r.1 = 0 → cr_E l σ0 σ r.2.2.2.2) ∧ (r.1 ≠ 0 → σ.1 7 7 = nI (rl_x l r.2.1).2.1)
theorem cr_Xf {l : List pg_N} {NN nx : Nat} {σ0 σ : pm_S} {A : rl_A} {r : Nat × Nat × rl_W} (h : cr_I l NN σ0 σ nx A) (hr : r.1 ≠ 0) : cr_X l σ0 (pm_pi σ 7 7 (nI (rl_x l r.2.1).2.1)) r := ⟨cc_pi h.2.2.1 (by decide), ⟨9 + A.1.length, by have := h.2.2.2.2.1.1; omega, h.2.2.2.2.1.2.1⟩, fun z => absurd z hr, fun _ => rfl⟩
theorem cr144r {d : Nat} {l : List pg_N} {NN : Nat} {σ0 σ : pm_S} {A : rl_A} {Q : Option Value → pm_S → Prop} (h : cr_I l NN σ0 σ l.length A) (hi : 0 < l.length) (h0r : rl_k l 0 = 0) (hp : pv_B A.1) (hall : rl_all A.1 < 2 ^ 30) (hQ : ∀ σ', cc_F σ0 σ' → σ'.1 5 8 = nI (9 + A.1.length) → ((if A.1 = [] ∨ (rl_cur A).1 ≠ 3 then 10 else if 8192 < rl_all A.1 then 42 else 0) = 0 → cr_E l σ0 σ' A) → Q (some (.int (nI (if A.1 = [] ∨ (rl_cur A).1 ≠ 3 then 10 else if 8192 < rl_all A.1 then 42 else 0)))) σ') : pm_call pm_Y0 (d + 4) 144 [.ref 7, .int (nI 0)] σ Q := by
  refine wq_m m144 (Nat.le_of_ble_eq_true rfl) (by decide) rfl ?_
  refine wq_l 1 d144_0 rfl rfl rfl rfl ?_
  refine wq_gr (ci := 7) (j := 0) (q := 3) 4 d144_1 rfl rfl rfl rfl ?_
  refine wq_l 5 d144_4 rfl rfl rfl rfl ?_
  refine wq_v 8 [_] d144_5 rfl rfl m65 rfl rfl (Nat.le_of_ble_eq_true rfl) rfl (ck65 (i := 0) (cr_S h) hi ?_)
  rw [h0r]
  refine wq_s 9 d144_8 rfl rfl (Nat.le_of_ble_eq_true rfl) rfl rfl ?_
  refine wq_l 10 d144_9 rfl rfl rfl rfl ?_
  refine wq_tw [(0, 68), (1, 73), (2, 171), (3, 171), (4, 99), (5, 105), (6, 111), (7, 117), (8, 123), (9, 141), (10, 147)] 171 d144_10 (by decide) (List.forall_mem_cons.mpr ⟨fun e10 => ?_, List.forall_mem_cons.mpr ⟨fun e10 => ?_, List.forall_mem_cons.mpr ⟨fun e10 => ?_, List.forall_mem_cons.mpr ⟨fun e10 => ?_, List.forall_mem_cons.mpr ⟨fun e10 => ?_, List.forall_mem_cons.mpr ⟨fun e10 => ?_, List.forall_mem_cons.mpr ⟨fun e10 => ?_, List.forall_mem_cons.mpr ⟨fun e10 => ?_, List.forall_mem_cons.mpr ⟨fun e10 => ?_, List.forall_mem_cons.mpr ⟨fun e10 => ?_, List.forall_mem_cons.mpr ⟨fun e10 => ?_, fun _ h => absurd h List.not_mem_nil⟩⟩⟩⟩⟩⟩⟩⟩⟩⟩⟩) (fun e10 => ?_)
  · -- case 0
    refine wq_l 69 d144_68 rfl rfl rfl rfl ?_
    refine wq_v 72 [] d144_69 rfl rfl m145 rfl rfl (Nat.le_of_ble_eq_true rfl) rfl (cr145 h hp hall (fun σ69 f69 c69 g69 => ?_))
    refine wq_ri d144_72 (rfl) ?_
    exact hQ _ f69 c69 g69
  · -- case 1
    exact absurd e10 (by decide)
  · -- case 2
    exact absurd e10 (by decide)
  · -- case 3
    exact absurd e10 (by decide)
  · -- case 4
    exact absurd e10 (by decide)
  · -- case 5
    exact absurd e10 (by decide)
  · -- case 6
    exact absurd e10 (by decide)
  · -- case 7
    exact absurd e10 (by decide)
  · -- case 8
    exact absurd e10 (by decide)
  · -- case 9
    exact absurd e10 (by decide)
  · -- case 10
    exact absurd e10 (by decide)
  · -- default
    have w10_0 := e10 (0, 68) (by decide)
    have w10_1 := e10 (1, 73) (by decide)
    have w10_2 := e10 (2, 171) (by decide)
    have w10_3 := e10 (3, 171) (by decide)
    have w10_4 := e10 (4, 99) (by decide)
    have w10_5 := e10 (5, 105) (by decide)
    have w10_6 := e10 (6, 111) (by decide)
    have w10_7 := e10 (7, 117) (by decide)
    have w10_8 := e10 (8, 123) (by decide)
    have w10_9 := e10 (9, 141) (by decide)
    have w10_10 := e10 (10, 147) (by decide)
    exact absurd rfl w10_0
theorem cr141l {d : Nat} {Q : Option Value → pm_S → Prop} {l : List pg_N} {NN : Nat} {σ0 : pm_S} {I : rl_W → Prop} (hG : lg_G l NN) (h0r : rl_k l 0 = 0) (hW : pi_W l I) (hz0 : ct_Z l σ0) (hol : ∀ A i, (rl_out l A i).1 < 2 ^ 20) : ∀ (n st : Nat) (o : Option Nat) (nx : Nat) (A : rl_A) (σ : pm_S) (w4 w5 : Value), st + n = 2 * l.length → st + pi_d l o = 2 * nx → (n = 0 ∨ (I (o, nx, A) ∧ cr_I l NN σ0 σ nx A)) → (n = 0 → cr_X l σ0 σ (rl_run l n (o, nx, A))) → (∀ σ', cr_X l σ0 σ' (rl_run l n (o, nx, A)) → Q (some (.int (nI (rl_run l n (o, nx, A)).1))) σ') → pm_WP pm_Y0 (pm_call pm_Y0 (d + 7)) 7 prog_7_method_3_code (some FieldType.int) Q 28 [.ref 7, .int (hp_oi o), .int (nI nx), .int (nI st), w4, w5] [] σ := by
  have hl := hG.2.2.2.1
  intro n
  induction n with
  | zero =>
    intro st o nx A σ w4 w5 hst hd hI hX hQ
    have X := hX rfl
    have est : st = 2 * l.length := by omega
    have hZ : ∀ d Q', Q' (some (.int (nI l.length))) σ → pm_call pm_Y0 (d + 1) 60 [.ref 3] σ Q' := fun d Q' q => ck60 (ct_Zf hz0 X.1) q
    have e2 := nI_toInt (n := 2 * l.length) (by omega)
    have em : (2 : Int32) * nI l.length = nI (2 * l.length) := (Int32.ofNat_mul 2 l.length).symm
    refine wq_l 29 d141_28 rfl rfl rfl rfl ?_
    refine wq_k 30 2 d141_29 (by decide) rfl ?_
    refine wq_l 31 d141_30 rfl rfl rfl rfl ?_
    refine wq_gr (ci := 7) (j := 0) (q := 3) 34 d141_31 rfl rfl rfl rfl ?_
    refine wq_v 37 [] d141_34 rfl rfl m60 rfl rfl (Nat.le_of_ble_eq_true rfl) rfl (hZ _ _ ?_)
    refine wq_a 38 d141_37 rfl rfl ?_
    rw [em]
    refine wq_b 131 41 d141_38 rfl (by decide) rfl (fun c38 => ?_) (fun c38 => absurd (by rw [est, i_le]; omega) c38)
    refine wq_k 132 0 d141_131 (by decide) rfl ?_
    refine wq_ri d141_132 (rfl) ?_
    exact hQ _ X
  | succ n ih =>
    intro st o nx A σ w4 w5 hst hd hI hX hQ
    obtain ⟨hI, h⟩ := hI.resolve_left (by omega)
    have e2 := nI_toInt (n := 2 * l.length) (by omega)
    have es := nI_toInt (n := st) (by omega)
    have em : (2 : Int32) * nI l.length = nI (2 * l.length) := (Int32.ofNat_mul 2 l.length).symm
    have gG : pi_G l o nx := hW.1 _ hI
    have hnx : nx ≤ l.length := by
      cases o with
      | none =>
        have gG : nx = 0 ∨ nx = l.length := gG
        omega
      | some i =>
        obtain ⟨g1, g2, g3, _⟩ := gG
        have := (rl_zc hG.1 g1).2
        have g3 : nx ≤ i + rl_z l i := g3
        omega
    have en := nI_toInt (n := nx) (by omega)
    by_cases hlt : nx < rl_end l o
    · obtain ⟨q1, q2, q3, q4⟩ := pi_in hG gG hlt
      have cE := hW.2.1 _ hI hlt
      have eS := rl_sti (A := A) hlt
      have ol : rl_end l o ≤ l.length := by
        cases o with
        | none => exact Nat.le_refl _
        | some i => exact (rl_zc hG.1 gG.1).2
      have eo := nI_toInt (n := rl_end l o) (by omega)
      have hbe : ∀ d Q', Q' (some (.int (nI (rl_end l o)))) σ → pm_call pm_Y0 (d + 1) 63 [.ref 3, .int (hp_oi o)] σ Q' := fun d Q' q => by
        cases o with
        | none => exact ck63n (cr_S h) q
        | some i => exact ck63 (cr_S h) gG.1 q
      refine wq_l 29 d141_28 rfl rfl rfl rfl ?_
      refine wq_k 30 2 d141_29 (by decide) rfl ?_
      refine wq_l 31 d141_30 rfl rfl rfl rfl ?_
      refine wq_gr (ci := 7) (j := 0) (q := 3) 34 d141_31 rfl rfl rfl rfl ?_
      refine wq_v 37 [] d141_34 rfl rfl m60 rfl rfl (Nat.le_of_ble_eq_true rfl) rfl (ck60 (cr_S h) ?_)
      refine wq_a 38 d141_37 rfl rfl ?_
      rw [em]
      refine wq_b 131 41 d141_38 rfl (by decide) rfl (fun c38 => absurd c38 (by rw [i_le, e2, es]; omega)) (fun c38 => ?_)
      refine wq_l 42 d141_41 rfl rfl rfl rfl ?_
      refine wq_s 44 d141_42 rfl rfl (Nat.le_of_ble_eq_true rfl) rfl rfl ?_
      refine wq_l 45 d141_44 rfl rfl rfl rfl ?_
      refine wq_l 46 d141_45 rfl rfl rfl rfl ?_
      refine wq_gr (ci := 7) (j := 0) (q := 3) 49 d141_46 rfl rfl rfl rfl ?_
      refine wq_l 50 d141_49 rfl rfl rfl rfl ?_
      refine wq_v 53 [_] d141_50 rfl rfl m63 rfl rfl (Nat.le_of_ble_eq_true rfl) rfl (hbe _ _ ?_)
      refine wq_b 86 56 d141_53 rfl (by decide) rfl (fun c53 => absurd c53 (by rw [i_le, eo, en]; omega)) (fun c53 => ?_)
      refine wq_l 57 d141_56 rfl rfl rfl rfl ?_
      refine wq_s 59 d141_57 rfl rfl (Nat.le_of_ble_eq_true rfl) rfl rfl ?_
      refine wq_i 62 d141_59 rfl rfl rfl ?_
      rw [show nI nx + Int32.ofInt 1 = nI (nx + 1) from nI_1 nx]
      refine wq_l 63 d141_62 rfl rfl rfl rfl ?_
      refine wq_gr (ci := 7) (j := 0) (q := 3) 66 d141_63 rfl rfl rfl rfl ?_
      refine wq_l 68 d141_66 rfl rfl rfl rfl ?_
      refine wq_l 69 d141_68 rfl rfl rfl rfl ?_
      refine wq_v 72 [_, _] d141_69 rfl rfl m64 rfl rfl (Nat.le_of_ble_eq_true rfl) rfl (ck64 h q1 rfl (by rw [q2]) (fun σ69 h69 => ?_))
      refine wq_l 74 d141_72 rfl rfl rfl rfl ?_
      refine wq_s 75 d141_74 rfl rfl (Nat.le_of_ble_eq_true rfl) rfl rfl ?_
      refine wq_l 76 d141_75 rfl rfl rfl rfl ?_
      refine wq_l 78 d141_76 rfl rfl rfl rfl ?_
      refine wq_v 81 [_] d141_78 rfl rfl m142 rfl rfl (Nat.le_of_ble_eq_true rfl) rfl (cr142 hG h69 q1 cE.1 cE.2.1 cE.2.2.1 cE.2.2.2 (fun σ78 A78 h78 g78 => ?_))
      have fl := rl_inl l A nx
      have efl := nI_toInt (n := (rl_in l A nx).1) (by omega)
      refine wq_s 83 d141_81 rfl rfl (Nat.le_of_ble_eq_true rfl) rfl rfl ?_
      refine wq_g 104 d141_83 (by decide) ?_
      refine wq_l 106 d141_104 rfl rfl rfl rfl ?_
      refine wq_b 125 109 d141_106 rfl (by decide) rfl (fun c106 => ?_) (fun c106 => ?_)
      · -- pc 125
        refine wq_i 128 d141_125 rfl rfl rfl ?_
        refine wq_g 28 d141_128 (by decide) ?_
        have c106 : (rl_in l A nx).1 = 0 := hp_inj (by omega) (by decide) c106
        have nz : (rl_step l (o, nx, A)).1 = 0 := by rw [eS]; exact c106
        have eR := rl_runc (n := n) nz
        have hI' := hW.2.2.2 _ hI nz
        rw [eS] at hI' eR
        have hI' : I (some nx, nx + 1, (rl_in l A nx).2) := hI'
        rw [g78 c106] at h78
        rw [eR] at hQ
        rw [show nI st + Int32.ofInt 1 = nI (st + 1) from nI_1 st]
        exact ih (st + 1) (some nx) (nx + 1) _ _ _ _ (by omega) (by rw [q4]; omega) (Or.inr ⟨hI', h78⟩) (fun z => by exfalso; omega) hQ
      · -- pc 109
        refine wq_l 110 d141_109 rfl rfl rfl rfl ?_
        refine wq_l 111 d141_110 rfl rfl rfl rfl ?_
        refine wq_gr (ci := 7) (j := 0) (q := 3) 114 d141_111 rfl rfl rfl rfl ?_
        refine wq_l 116 d141_114 rfl rfl rfl rfl ?_
        refine wq_v 119 [_] d141_116 rfl rfl m74 rfl rfl (Nat.le_of_ble_eq_true rfl) rfl (ck74 (cr_S h78) q1 ?_)
        refine wq_pf (ci := 7) (j := 7) 122 d141_119 rfl rfl rfl ⟨rfl, rfl⟩ rfl ?_
        refine wq_l 124 d141_122 rfl rfl rfl rfl ?_
        refine wq_ri d141_124 (rfl) ?_
        have c106 : ¬ (rl_in l A nx).1 = 0 := fun z => c106 (by rw [z]; rfl)
        have nz : (rl_step l (o, nx, A)).1 ≠ 0 := by rw [eS]; exact c106
        have eR := rl_runs (n := n) nz
        rw [eR, eS] at hQ
        exact hQ _ (cr_Xf (r := ((rl_in l A nx).1, nx, some nx, nx + 1, (rl_in l A nx).2)) h78 c106)
    · have oi : ∃ i, o = some i := by
        cases o with
        | none =>
          exfalso
          have hlt : ¬ nx < l.length := hlt
          have hd : st + 0 = 2 * nx := hd
          omega
        | some i => exact ⟨i, rfl⟩
      obtain ⟨i, oi⟩ := oi
      subst oi
      have hlt : ¬ nx < i + rl_z l i := hlt
      obtain ⟨q1, q2, q3, q4, q5, q6⟩ := pi_out hG gG hlt
      have cL := hW.2.2.1 _ _ _ hI hlt
      have eS := rl_sto (A := A) hlt
      have iz := (rl_zc hG.1 q1).2
      have ez := nI_toInt (n := i + rl_z l i) (by omega)
      have h20 := hol A i
      by_cases hi0 : i = 0
      · subst hi0
        have n1 : n = 0 := by
          have hd : st + 1 = 2 * nx := hd
          have := q6 rfl
          omega
        subst n1
        have e6 := q6 rfl
        subst e6
        obtain ⟨p1, p2⟩ := cL.2 rfl
        have eO := rl_o0 (l := l) (A := A) h0r
        have kl0 : nI (rl_k l 0) = 0 := by rw [h0r]; rfl
        refine wq_l 29 d141_28 rfl rfl rfl rfl ?_
        refine wq_k 30 2 d141_29 (by decide) rfl ?_
        refine wq_l 31 d141_30 rfl rfl rfl rfl ?_
        refine wq_gr (ci := 7) (j := 0) (q := 3) 34 d141_31 rfl rfl rfl rfl ?_
        refine wq_v 37 [] d141_34 rfl rfl m60 rfl rfl (Nat.le_of_ble_eq_true rfl) rfl (ck60 (cr_S h) ?_)
        refine wq_a 38 d141_37 rfl rfl ?_
        rw [em]
        refine wq_b 131 41 d141_38 rfl (by decide) rfl (fun c38 => absurd c38 (by rw [i_le, e2, es]; omega)) (fun c38 => ?_)
        refine wq_l 42 d141_41 rfl rfl rfl rfl ?_
        refine wq_s 44 d141_42 rfl rfl (Nat.le_of_ble_eq_true rfl) rfl rfl ?_
        refine wq_l 45 d141_44 rfl rfl rfl rfl ?_
        refine wq_l 46 d141_45 rfl rfl rfl rfl ?_
        refine wq_gr (ci := 7) (j := 0) (q := 3) 49 d141_46 rfl rfl rfl rfl ?_
        refine wq_l 50 d141_49 rfl rfl rfl rfl ?_
        refine wq_v 53 [_] d141_50 rfl rfl m63 rfl rfl (Nat.le_of_ble_eq_true rfl) rfl (ck63 (i := 0) (cr_S h) q1 ?_)
        refine wq_b 86 56 d141_53 rfl (by decide) rfl (fun c53 => ?_) (fun c53 => absurd (by rw [i_le, ez, en]; omega) c53)
        refine wq_l 87 d141_86 rfl rfl rfl rfl ?_
        refine wq_gr (ci := 7) (j := 0) (q := 3) 90 d141_87 rfl rfl rfl rfl ?_
        refine wq_l 92 d141_90 rfl rfl rfl rfl ?_
        refine wq_v 95 [_] d141_92 rfl rfl m69 rfl rfl (Nat.le_of_ble_eq_true rfl) rfl (ck69 (i := 0) h q1 q1 ?_)
        refine wq_s 96 d141_95 rfl rfl (Nat.le_of_ble_eq_true rfl) rfl rfl ?_
        refine wq_l 97 d141_96 rfl rfl rfl rfl ?_
        refine wq_l 99 d141_97 rfl rfl rfl rfl ?_
        refine wq_v 102 [_] d141_99 rfl rfl m144 rfl rfl (Nat.le_of_ble_eq_true rfl) rfl (cr144r h q1 h0r p1 p2 (fun σ99 f99 c99 g99 => ?_))
        refine wq_s 104 d141_102 rfl rfl (Nat.le_of_ble_eq_true rfl) rfl rfl ?_
        refine wq_l 106 d141_104 rfl rfl rfl rfl ?_
        refine wq_b 125 109 d141_106 rfl (by decide) rfl (fun c106 => ?_) (fun c106 => ?_)
        · -- pc 125
          refine wq_i 128 d141_125 rfl rfl rfl ?_
          refine wq_g 28 d141_128 (by decide) ?_
          have e99 : (rl_out l A 0).1 = (if A.1 = [] ∨ (rl_cur A).1 ≠ 3 then 10 else if 8192 < rl_all A.1 then 42 else 0) := by rw [eO]
          have c106 : (rl_out l A 0).1 = 0 := by rw [e99]; rw [e99] at h20; exact hp_inj (by omega) (by decide) c106
          have nz : (rl_step l (some 0, l.length, A)).1 = 0 := by rw [eS]; exact c106
          have eR := rl_runc (n := 0) nz
          rw [eS] at eR
          have eA : (rl_out l A 0).2 = A := by rw [eO]
          rw [eA] at eR
          rw [eR] at hQ
          rw [show nI st + Int32.ofInt 1 = nI (st + 1) from nI_1 st]
          exact ih (st + 1) (rl_up l 0).head? l.length A _ _ _ (by omega) (by show st + 1 + 0 = _; have hd : st + 1 = 2 * l.length := hd; omega) (Or.inl rfl) (fun _ => ⟨f99, ⟨9 + A.1.length, by have := h.2.2.2.2.1.1; omega, c99⟩, fun _ => g99 (e99.symm.trans c106), fun z => absurd rfl z⟩) hQ
        · -- pc 109
          refine wq_l 110 d141_109 rfl rfl rfl rfl ?_
          refine wq_l 111 d141_110 rfl rfl rfl rfl ?_
          refine wq_gr (ci := 7) (j := 0) (q := 3) 114 d141_111 rfl rfl rfl rfl ?_
          refine wq_l 116 d141_114 rfl rfl rfl rfl ?_
          refine wq_v 119 [_] d141_116 rfl rfl m74 rfl rfl (Nat.le_of_ble_eq_true rfl) rfl (ck74 (i := 0) (ct_Zf hz0 f99) q1 ?_)
          refine wq_pf (ci := 7) (j := 7) 122 d141_119 rfl rfl rfl ⟨rfl, rfl⟩ rfl ?_
          refine wq_l 124 d141_122 rfl rfl rfl rfl ?_
          refine wq_ri d141_124 (rfl) ?_
          have eRR := eO
          have c106 : ¬ (rl_out l A 0).1 = 0 := fun z => c106 (by rw [eO] at z; rw [show (if A.1 = [] ∨ (rl_cur A).1 ≠ 3 then 10 else if 8192 < rl_all A.1 then 42 else 0) = 0 from z]; rfl)
          have nz : (rl_step l (some 0, l.length, A)).1 ≠ 0 := by rw [eS]; exact c106
          have eR := rl_runs (n := 0) nz
          rw [eR, eS] at hQ
          have e99 : (rl_out l A 0).1 = (if A.1 = [] ∨ (rl_cur A).1 ≠ 3 then 10 else if 8192 < rl_all A.1 then 42 else 0) := by rw [eO]
          rw [e99] at hQ
          refine hQ _ ⟨cc_pi f99 (by decide), ⟨9 + A.1.length, by have := h.2.2.2.2.1.1; omega, c99⟩, fun z => absurd (show (rl_out l A 0).1 = 0 from e99.trans z) c106, fun _ => rfl⟩
      · have hk0 : rl_k l i ≠ 0 := fun z => by
          have hR := lg_Rp hG q1 (by omega)
          exact sh_k0 _ (by have := (lg_V hG (show rl_par l i < l.length by have := (lg_par hG q1 (by omega)).1; omega)).1; omega) _ (by have := (lg_V hG q1).1; omega) hR z
        refine wq_l 29 d141_28 rfl rfl rfl rfl ?_
        refine wq_k 30 2 d141_29 (by decide) rfl ?_
        refine wq_l 31 d141_30 rfl rfl rfl rfl ?_
        refine wq_gr (ci := 7) (j := 0) (q := 3) 34 d141_31 rfl rfl rfl rfl ?_
        refine wq_v 37 [] d141_34 rfl rfl m60 rfl rfl (Nat.le_of_ble_eq_true rfl) rfl (ck60 (cr_S h) ?_)
        refine wq_a 38 d141_37 rfl rfl ?_
        rw [em]
        refine wq_b 131 41 d141_38 rfl (by decide) rfl (fun c38 => absurd c38 (by rw [i_le, e2, es]; omega)) (fun c38 => ?_)
        refine wq_l 42 d141_41 rfl rfl rfl rfl ?_
        refine wq_s 44 d141_42 rfl rfl (Nat.le_of_ble_eq_true rfl) rfl rfl ?_
        refine wq_l 45 d141_44 rfl rfl rfl rfl ?_
        refine wq_l 46 d141_45 rfl rfl rfl rfl ?_
        refine wq_gr (ci := 7) (j := 0) (q := 3) 49 d141_46 rfl rfl rfl rfl ?_
        refine wq_l 50 d141_49 rfl rfl rfl rfl ?_
        refine wq_v 53 [_] d141_50 rfl rfl m63 rfl rfl (Nat.le_of_ble_eq_true rfl) rfl (ck63 (i := i) (cr_S h) q1 ?_)
        refine wq_b 86 56 d141_53 rfl (by decide) rfl (fun c53 => ?_) (fun c53 => absurd (by rw [i_le, ez, en]; omega) c53)
        refine wq_l 87 d141_86 rfl rfl rfl rfl ?_
        refine wq_gr (ci := 7) (j := 0) (q := 3) 90 d141_87 rfl rfl rfl rfl ?_
        refine wq_l 92 d141_90 rfl rfl rfl rfl ?_
        refine wq_v 95 [_] d141_92 rfl rfl m69 rfl rfl (Nat.le_of_ble_eq_true rfl) rfl (ck69 (i := i) h q1 q2 ?_)
        refine wq_s 96 d141_95 rfl rfl (Nat.le_of_ble_eq_true rfl) rfl rfl ?_
        refine wq_l 97 d141_96 rfl rfl rfl rfl ?_
        refine wq_l 99 d141_97 rfl rfl rfl rfl ?_
        refine wq_v 102 [_] d141_99 rfl rfl m144 rfl rfl (Nat.le_of_ble_eq_true rfl) rfl (cr144 hG h q1 q2 h0r (cL.1 hi0) hk0 (fun σ99 A99 h99 g99 => ?_))
        refine wq_s 104 d141_102 rfl rfl (Nat.le_of_ble_eq_true rfl) rfl rfl ?_
        refine wq_l 106 d141_104 rfl rfl rfl rfl ?_
        refine wq_b 125 109 d141_106 rfl (by decide) rfl (fun c106 => ?_) (fun c106 => ?_)
        · -- pc 125
          refine wq_i 128 d141_125 rfl rfl rfl ?_
          refine wq_g 28 d141_128 (by decide) ?_
          have c106 : (rl_out l A i).1 = 0 := hp_inj (by omega) (by decide) c106
          have nz : (rl_step l (some i, nx, A)).1 = 0 := by rw [eS]; exact c106
          have eR := rl_runc (n := n) nz
          have hI' := hW.2.2.2 _ hI nz
          rw [eS] at hI' eR
          have hI' : I ((rl_up l i).head?, nx, (rl_out l A i).2) := hI'
          rw [g99 c106] at h99
          rw [eR] at hQ
          rw [show nI st + Int32.ofInt 1 = nI (st + 1) from nI_1 st]
          have u := (rl_upu hG q1 (by omega)).1
          exact ih (st + 1) (rl_up l i).head? nx _ _ _ _ (by omega) (by omega) (Or.inr ⟨hI', h99⟩) (fun z => by
            exfalso
            have p3 := (lg_par hG q1 (by omega)).2.2
            have p1 := (lg_par hG q1 (by omega)).1
            rw [p3] at q5
            have q5 : pi_d l (some i) = (rl_up l (rl_par l i)).length + 1 + 1 := q5
            omega) hQ
        · -- pc 109
          refine wq_l 110 d141_109 rfl rfl rfl rfl ?_
          refine wq_l 111 d141_110 rfl rfl rfl rfl ?_
          refine wq_gr (ci := 7) (j := 0) (q := 3) 114 d141_111 rfl rfl rfl rfl ?_
          refine wq_l 116 d141_114 rfl rfl rfl rfl ?_
          refine wq_v 119 [_] d141_116 rfl rfl m74 rfl rfl (Nat.le_of_ble_eq_true rfl) rfl (ck74 (i := i) (cr_S h99) q1 ?_)
          refine wq_pf (ci := 7) (j := 7) 122 d141_119 rfl rfl rfl ⟨rfl, rfl⟩ rfl ?_
          refine wq_l 124 d141_122 rfl rfl rfl rfl ?_
          refine wq_ri d141_124 (rfl) ?_
          have c106 : ¬ (rl_out l A i).1 = 0 := fun z => c106 (by rw [z]; rfl)
          have nz : (rl_step l (some i, nx, A)).1 ≠ 0 := by rw [eS]; exact c106
          have eR := rl_runs (n := n) nz
          rw [eR, eS] at hQ
          exact hQ _ (cr_Xf (r := ((rl_out l A i).1, i, (rl_up l i).head?, nx, (rl_out l A i).2)) h99 c106)
