theorem d275_0 : decode prog_14_method_116_code 0 = .ok (.aload_n 0, 1) := by decide +kernel
theorem d275_1 : decode prog_14_method_116_code 1 = .ok (.getfield 38, 3) := by decide +kernel
theorem d275_4 : decode prog_14_method_116_code 4 = .ok (.iload_n 1, 1) := by decide +kernel
theorem d275_5 : decode prog_14_method_116_code 5 = .ok (.iaload, 1) := by decide +kernel
theorem d275_6 : decode prog_14_method_116_code 6 = .ok (.ifCond .lt 10, 3) := by decide +kernel
theorem d275_9 : decode prog_14_method_116_code 9 = .ok (.aload_n 0, 1) := by decide +kernel
theorem d275_10 : decode prog_14_method_116_code 10 = .ok (.getfield 38, 3) := by decide +kernel
theorem d275_13 : decode prog_14_method_116_code 13 = .ok (.iload_n 1, 1) := by decide +kernel
theorem d275_14 : decode prog_14_method_116_code 14 = .ok (.iaload, 1) := by decide +kernel
theorem d275_15 : decode prog_14_method_116_code 15 = .ok (.ireturn, 1) := by decide +kernel
theorem d275_16 : decode prog_14_method_116_code 16 = .ok (.iload_n 1, 1) := by decide +kernel
theorem d275_17 : decode prog_14_method_116_code 17 = .ok (.istore_n 3, 1) := by decide +kernel
theorem d275_18 : decode prog_14_method_116_code 18 = .ok (.iload_n 3, 1) := by decide +kernel
theorem d275_19 : decode prog_14_method_116_code 19 = .ok (.iload_n 2, 1) := by decide +kernel
theorem d275_20 : decode prog_14_method_116_code 20 = .ok (.if_icmp .eq 22, 3) := by decide +kernel
theorem d275_23 : decode prog_14_method_116_code 23 = .ok (.aload_n 0, 1) := by decide +kernel
theorem d275_24 : decode prog_14_method_116_code 24 = .ok (.getfield 44, 3) := by decide +kernel
theorem d275_27 : decode prog_14_method_116_code 27 = .ok (.iload_n 3, 1) := by decide +kernel
theorem d275_28 : decode prog_14_method_116_code 28 = .ok (.iaload, 1) := by decide +kernel
theorem d275_29 : decode prog_14_method_116_code 29 = .ok (.ifCond .ge 13, 3) := by decide +kernel
theorem d275_32 : decode prog_14_method_116_code 32 = .ok (.aload_n 0, 1) := by decide +kernel
theorem d275_33 : decode prog_14_method_116_code 33 = .ok (.getfield 47, 3) := by decide +kernel
theorem d275_36 : decode prog_14_method_116_code 36 = .ok (.iload_n 3, 1) := by decide +kernel
theorem d275_37 : decode prog_14_method_116_code 37 = .ok (.iaload, 1) := by decide +kernel
theorem d275_38 : decode prog_14_method_116_code 38 = .ok (.istore_n 3, 1) := by decide +kernel
theorem d275_39 : decode prog_14_method_116_code 39 = .ok (.goto (-21), 3) := by decide +kernel
theorem d275_42 : decode prog_14_method_116_code 42 = .ok (.iload_n 3, 1) := by decide +kernel
theorem d275_43 : decode prog_14_method_116_code 43 = .ok (.iload_n 2, 1) := by decide +kernel
theorem d275_44 : decode prog_14_method_116_code 44 = .ok (.if_icmp .ne 7, 3) := by decide +kernel
theorem d275_47 : decode prog_14_method_116_code 47 = .ok (.iconst (-1), 1) := by decide +kernel
theorem d275_48 : decode prog_14_method_116_code 48 = .ok (.goto 9, 3) := by decide +kernel
theorem d275_51 : decode prog_14_method_116_code 51 = .ok (.aload_n 0, 1) := by decide +kernel
theorem d275_52 : decode prog_14_method_116_code 52 = .ok (.getfield 44, 3) := by decide +kernel
theorem d275_55 : decode prog_14_method_116_code 55 = .ok (.iload_n 3, 1) := by decide +kernel
theorem d275_56 : decode prog_14_method_116_code 56 = .ok (.iaload, 1) := by decide +kernel
theorem d275_57 : decode prog_14_method_116_code 57 = .ok (.ireturn, 1) := by decide +kernel
theorem m275 : pm_m 275 = some (⟨"TypeRulesModel", "behindIn", "(II)I"⟩, prog_14_method_116_code, 4, (some FieldType.int), 10, 2, 11) := rfl
/-! THE NEXT NODE, in the order of a walk -/
theorem rl_upm {l : List pg_N} {t c : Nat} : t ∈ rl_up l c ↔ t < c ∧ c < t + rl_z l t := by
  unfold rl_up
  rw [List.mem_filter, List.mem_reverse, List.mem_range, decide_eq_true_eq]
theorem rl_pge {l : List pg_N} {NN t c : Nat} (hG : lg_G l NN) (hc : c < l.length) (h1 : t < c) (h2 : c < t + rl_z l t) : t ≤ rl_par l c ∧ rl_par l c + rl_z l (rl_par l c) ≤ t + rl_z l t := by
  obtain ⟨u1, u2⟩ := rl_upu hG hc (by omega)
  have m := rl_upm.mpr ⟨h1, h2⟩
  rw [u1] at m
  rcases List.mem_cons.mp m with q | q
  · rw [← q]; exact ⟨Nat.le_refl _, Nat.le_refl _⟩
  · obtain ⟨q1, q2⟩ := rl_upm.mp q
    exact ⟨by omega, rl_zl hG.1 (by omega) q1 q2⟩
theorem re275l {d : Nat} {l : List pg_N} {a : Nat → Nat} {R : Int32 → Int32 → Prop} {σ : pm_S} {Q : Option Value → pm_S → Prop} {NN i t : Nat} (T : rs_T l a R σ) (hG : lg_G l NN) (ht : t < l.length) (hQ : Q (some (.int (if i + 1 < t + rl_z l t then nI (a (i + 1)) else -1))) σ) : ∀ (n c : Nat), c ≤ n → t ≤ c → c < t + rl_z l t → c < l.length → c + rl_z l c = i + 1 → pm_WP pm_Y0 (pm_call pm_Y0 (d)) 10 prog_14_method_116_code (some FieldType.int) Q 18 [.ref 10, .int (nI (a i)), .int (nI (a t)), .int (nI (a c))] [] σ := by
  have inj := T.2.1
  have at_ := (T.2.2.1 t ht).1
  have bt := rt_b T ht
  have stop : ∀ c, c = t → c + rl_z l c = i + 1 → pm_WP pm_Y0 (pm_call pm_Y0 (d)) 10 prog_14_method_116_code (some FieldType.int) Q 18 [.ref 10, .int (nI (a i)), .int (nI (a t)), .int (nI (a c))] [] σ := fun c e h => by
    subst e
    rw [if_neg (by omega)] at hQ
    refine wq_l 19 d275_18 rfl rfl rfl rfl ?_
    refine wq_l 20 d275_19 rfl rfl rfl rfl ?_
    refine wq_b 42 23 d275_20 rfl (by decide) rfl (fun c20 => ?_) (fun c20 => absurd (rfl) c20)
    refine wq_l 43 d275_42 rfl rfl rfl rfl ?_
    refine wq_l 44 d275_43 rfl rfl rfl rfl ?_
    refine wq_b 51 47 d275_44 rfl (by decide) rfl (fun c44 => absurd c44 (fun z => z rfl)) (fun c44 => ?_)
    refine wq_k 48 (-1) d275_47 (by decide) rfl ?_
    refine wq_g 57 d275_48 (by decide) ?_
    refine wq_ri d275_57 (rfl) ?_
    exact hQ
  intro n
  induction n with
  | zero =>
    intro c hn h1 h2 h3 h4
    exact stop c (by omega) h4
  | succ n ih =>
    intro c hn h1 h2 h3 h4
    by_cases q : c = t
    · exact stop c q h4
    · obtain ⟨p1, p2, _⟩ := lg_par hG h3 (by omega)
      obtain ⟨g1, g2⟩ := rl_pge hG h3 (show t < c by omega) h2
      have pl : rl_par l c < l.length := by omega
      have nc := rt_n T hG pl p2
      have eq := (rt_q T hG h3).trans (if_neg (by omega))
      have le := rl_zl hG.1 pl p1 (rl_cm p2).2
      have bc := rt_b T h3
      have ac := (T.2.2.1 c h3).1
      have ne : ¬ nI (a c) = nI (a t) := fun z => q (inj c t h3 ht (hp_inj (by omega) (by omega) z))
      have pz := (lg_cl hG pl).1
      generalize rl_par l c = p at *
      by_cases w : c + rl_z l c < p + rl_z l p
      · rw [if_pos w, h4] at nc
        rw [if_pos (by omega)] at hQ
        have nl : i + 1 < l.length := by omega
        refine wq_l 19 d275_18 rfl rfl rfl rfl ?_
        refine wq_l 20 d275_19 rfl rfl rfl rfl ?_
        refine wq_b 42 23 d275_20 rfl (by decide) rfl (fun c20 => absurd c20 (ne)) (fun c20 => ?_)
        refine wq_l 24 d275_23 rfl rfl rfl rfl ?_
        refine wq_gr (ci := 10) (j := 21) (q := 54) 27 d275_24 rfl rfl rfl rfl ?_
        refine wq_l 28 d275_27 rfl rfl rfl rfl ?_
        refine wq_al 29 d275_28 rfl rfl rfl (bc) ?_
        rw [nc]
        refine wq_b 42 32 d275_29 rfl (by decide) rfl (fun c29 => ?_) (fun c29 => absurd (Int32.not_lt.mp (rt_nn T nl)) c29)
        refine wq_l 43 d275_42 rfl rfl rfl rfl ?_
        refine wq_l 44 d275_43 rfl rfl rfl rfl ?_
        refine wq_b 51 47 d275_44 rfl (by decide) rfl (fun c44 => ?_) (fun c44 => absurd (ne) c44)
        refine wq_l 52 d275_51 rfl rfl rfl rfl ?_
        refine wq_gr (ci := 10) (j := 21) (q := 54) 55 d275_52 rfl rfl rfl rfl ?_
        refine wq_l 56 d275_55 rfl rfl rfl rfl ?_
        refine wq_al 57 d275_56 rfl rfl rfl (bc) ?_
        rw [nc]
        refine wq_ri d275_57 (rfl) ?_
        exact hQ
      · rw [if_neg w] at nc
        refine wq_l 19 d275_18 rfl rfl rfl rfl ?_
        refine wq_l 20 d275_19 rfl rfl rfl rfl ?_
        refine wq_b 42 23 d275_20 rfl (by decide) rfl (fun c20 => absurd c20 (ne)) (fun c20 => ?_)
        refine wq_l 24 d275_23 rfl rfl rfl rfl ?_
        refine wq_gr (ci := 10) (j := 21) (q := 54) 27 d275_24 rfl rfl rfl rfl ?_
        refine wq_l 28 d275_27 rfl rfl rfl rfl ?_
        refine wq_al 29 d275_28 rfl rfl rfl (bc) ?_
        rw [nc]
        refine wq_b 42 32 d275_29 rfl (by decide) rfl (fun c29 => absurd c29 (by decide)) (fun c29 => ?_)
        refine wq_l 33 d275_32 rfl rfl rfl rfl ?_
        refine wq_gr (ci := 10) (j := 22) (q := 55) 36 d275_33 rfl rfl rfl rfl ?_
        refine wq_l 37 d275_36 rfl rfl rfl rfl ?_
        refine wq_al 38 d275_37 rfl rfl rfl (bc) ?_
        rw [eq]
        refine wq_s 39 d275_38 rfl rfl (Nat.le_of_ble_eq_true rfl) rfl rfl ?_
        refine wq_g 18 d275_39 (by decide) ?_
        exact ih p (by omega) g1 (by omega) pl (by omega)
theorem re275 {d : Nat} {l : List pg_N} {a : Nat → Nat} {R : Int32 → Int32 → Prop} {σ : pm_S} {Q : Option Value → pm_S → Prop} {NN i t : Nat} (T : rs_T l a R σ) (hG : lg_G l NN) (ht : t < l.length) (hi : t ≤ i) (hit : i < t + rl_z l t) (hQ : Q (some (.int (if i + 1 < t + rl_z l t then nI (a (i + 1)) else -1))) σ) : pm_call pm_Y0 (d + 1) 275 [.ref 10, .int (nI (a i)), .int (nI (a t))] σ Q := by
  have hl : i < l.length := by have := (lg_cl hG ht).1; omega
  have bi := rt_b T hl
  have ef := rt_f T hG hl
  have z0 : 0 < rl_z l i := by have := (rl_zc hG.1 hl).1; omega
  have le : i + rl_z l i ≤ t + rl_z l t := by
    rcases Nat.eq_or_lt_of_le hi with q | q
    · rw [q]; exact Nat.le_refl _
    · exact rl_zl hG.1 ht q hit
  by_cases w : i + 1 < i + rl_z l i
  · rw [if_pos w] at ef
    rw [if_pos (by omega)] at hQ
    have il := (lg_cl hG hl).1
    have nl : i + 1 < l.length := by omega
    refine wq_m m275 (Nat.le_of_ble_eq_true rfl) (by decide) rfl ?_
    refine wq_l 1 d275_0 rfl rfl rfl rfl ?_
    refine wq_gr (ci := 10) (j := 19) (q := 52) 4 d275_1 rfl rfl rfl rfl ?_
    refine wq_l 5 d275_4 rfl rfl rfl rfl ?_
    refine wq_al 6 d275_5 rfl rfl rfl (bi) ?_
    rw [ef]
    refine wq_b 16 9 d275_6 rfl (by decide) rfl (fun c6 => absurd c6 (rt_nn T nl)) (fun c6 => ?_)
    refine wq_l 10 d275_9 rfl rfl rfl rfl ?_
    refine wq_gr (ci := 10) (j := 19) (q := 52) 13 d275_10 rfl rfl rfl rfl ?_
    refine wq_l 14 d275_13 rfl rfl rfl rfl ?_
    refine wq_al 15 d275_14 rfl rfl rfl (bi) ?_
    rw [ef]
    refine wq_ri d275_15 (rfl) ?_
    exact hQ
  · rw [if_neg w] at ef
    refine wq_m m275 (Nat.le_of_ble_eq_true rfl) (by decide) rfl ?_
    refine wq_l 1 d275_0 rfl rfl rfl rfl ?_
    refine wq_gr (ci := 10) (j := 19) (q := 52) 4 d275_1 rfl rfl rfl rfl ?_
    refine wq_l 5 d275_4 rfl rfl rfl rfl ?_
    refine wq_al 6 d275_5 rfl rfl rfl (bi) ?_
    rw [ef]
    refine wq_b 16 9 d275_6 rfl (by decide) rfl (fun c6 => ?_) (fun c6 => absurd (by decide) c6)
    refine wq_l 17 d275_16 rfl rfl rfl rfl ?_
    refine wq_s 18 d275_17 rfl rfl (Nat.le_of_ble_eq_true rfl) rfl rfl ?_
    exact re275l T hG ht hQ i i (Nat.le_refl _) hi hit hl (by omega)
