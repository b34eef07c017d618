theorem d284_0 : decode prog_14_method_75_code 0 = .ok (.aload_n 0, 1) := by decide +kernel
theorem d284_1 : decode prog_14_method_75_code 1 = .ok (.getfield 77, 3) := by decide +kernel
theorem d284_4 : decode prog_14_method_75_code 4 = .ok (.iload_n 1, 1) := by decide +kernel
theorem d284_5 : decode prog_14_method_75_code 5 = .ok (.iaload, 1) := by decide +kernel
theorem d284_6 : decode prog_14_method_75_code 6 = .ok (.istore_n 3, 1) := by decide +kernel
theorem d284_7 : decode prog_14_method_75_code 7 = .ok (.iload_n 3, 1) := by decide +kernel
theorem d284_8 : decode prog_14_method_75_code 8 = .ok (.aload_n 0, 1) := by decide +kernel
theorem d284_9 : decode prog_14_method_75_code 9 = .ok (.getfield 80, 3) := by decide +kernel
theorem d284_12 : decode prog_14_method_75_code 12 = .ok (.iload_n 1, 1) := by decide +kernel
theorem d284_13 : decode prog_14_method_75_code 13 = .ok (.iaload, 1) := by decide +kernel
theorem d284_14 : decode prog_14_method_75_code 14 = .ok (.if_icmp .ge 21, 3) := by decide +kernel
theorem d284_17 : decode prog_14_method_75_code 17 = .ok (.aload_n 0, 1) := by decide +kernel
theorem d284_18 : decode prog_14_method_75_code 18 = .ok (.getfield 89, 3) := by decide +kernel
theorem d284_21 : decode prog_14_method_75_code 21 = .ok (.iload_n 3, 1) := by decide +kernel
theorem d284_22 : decode prog_14_method_75_code 22 = .ok (.iaload, 1) := by decide +kernel
theorem d284_23 : decode prog_14_method_75_code 23 = .ok (.iload_n 2, 1) := by decide +kernel
theorem d284_24 : decode prog_14_method_75_code 24 = .ok (.if_icmp .ne 5, 3) := by decide +kernel
theorem d284_27 : decode prog_14_method_75_code 27 = .ok (.iload_n 3, 1) := by decide +kernel
theorem d284_28 : decode prog_14_method_75_code 28 = .ok (.ireturn, 1) := by decide +kernel
theorem d284_29 : decode prog_14_method_75_code 29 = .ok (.iinc 3 1, 3) := by decide +kernel
theorem d284_32 : decode prog_14_method_75_code 32 = .ok (.goto (-25), 3) := by decide +kernel
theorem d284_35 : decode prog_14_method_75_code 35 = .ok (.iconst (-1), 1) := by decide +kernel
theorem d284_36 : decode prog_14_method_75_code 36 = .ok (.ireturn, 1) := by decide +kernel
theorem m284 : pm_m 284 = some (⟨"TypeRulesModel", "variableIn", "(II)I"⟩, prog_14_method_75_code, 4, (some FieldType.int), 10, 2, 11) := rfl
theorem d283_0 : decode prog_14_method_76_code 0 = .ok (.aload_n 0, 1) := by decide +kernel
theorem d283_1 : decode prog_14_method_76_code 1 = .ok (.aload_n 0, 1) := by decide +kernel
theorem d283_2 : decode prog_14_method_76_code 2 = .ok (.getfield 542, 3) := by decide +kernel
theorem d283_5 : decode prog_14_method_76_code 5 = .ok (.iconst 1, 1) := by decide +kernel
theorem d283_6 : decode prog_14_method_76_code 6 = .ok (.isub, 1) := by decide +kernel
theorem d283_7 : decode prog_14_method_76_code 7 = .ok (.iload_n 1, 1) := by decide +kernel
theorem d283_8 : decode prog_14_method_76_code 8 = .ok (.invokevirtual 545, 3) := by decide +kernel
theorem d283_11 : decode prog_14_method_76_code 11 = .ok (.ireturn, 1) := by decide +kernel
theorem m283 : pm_m 283 = some (⟨"TypeRulesModel", "variable", "(I)I"⟩, prog_14_method_76_code, 2, (some FieldType.int), 10, 1, 11) := rfl
theorem d270_0 : decode prog_14_method_74_code 0 = .ok (.iconst 0, 1) := by decide +kernel
theorem d270_1 : decode prog_14_method_74_code 1 = .ok (.istore_n 3, 1) := by decide +kernel
theorem d270_2 : decode prog_14_method_74_code 2 = .ok (.iload_n 3, 1) := by decide +kernel
theorem d270_3 : decode prog_14_method_74_code 3 = .ok (.iload_n 2, 1) := by decide +kernel
theorem d270_4 : decode prog_14_method_74_code 4 = .ok (.if_icmp .ge 26, 3) := by decide +kernel
theorem d270_7 : decode prog_14_method_74_code 7 = .ok (.aload_n 0, 1) := by decide +kernel
theorem d270_8 : decode prog_14_method_74_code 8 = .ok (.getfield 35, 3) := by decide +kernel
theorem d270_11 : decode prog_14_method_74_code 11 = .ok (.aload_n 0, 1) := by decide +kernel
theorem d270_12 : decode prog_14_method_74_code 12 = .ok (.getfield 74, 3) := by decide +kernel
theorem d270_15 : decode prog_14_method_74_code 15 = .ok (.iload_n 3, 1) := by decide +kernel
theorem d270_16 : decode prog_14_method_74_code 16 = .ok (.iaload, 1) := by decide +kernel
theorem d270_17 : decode prog_14_method_74_code 17 = .ok (.iaload, 1) := by decide +kernel
theorem d270_18 : decode prog_14_method_74_code 18 = .ok (.iload_n 1, 1) := by decide +kernel
theorem d270_19 : decode prog_14_method_74_code 19 = .ok (.if_icmp .ne 5, 3) := by decide +kernel
theorem d270_22 : decode prog_14_method_74_code 22 = .ok (.iload_n 3, 1) := by decide +kernel
theorem d270_23 : decode prog_14_method_74_code 23 = .ok (.ireturn, 1) := by decide +kernel
theorem d270_24 : decode prog_14_method_74_code 24 = .ok (.iinc 3 1, 3) := by decide +kernel
theorem d270_27 : decode prog_14_method_74_code 27 = .ok (.goto (-25), 3) := by decide +kernel
theorem d270_30 : decode prog_14_method_74_code 30 = .ok (.iconst (-1), 1) := by decide +kernel
theorem d270_31 : decode prog_14_method_74_code 31 = .ok (.ireturn, 1) := by decide +kernel
theorem m270 : pm_m 270 = some (⟨"TypeRulesModel", "findBlock", "(II)I"⟩, prog_14_method_74_code, 4, (some FieldType.int), 10, 2, 11) := rfl
theorem d267_0 : decode prog_14_method_77_code 0 = .ok (.aload_n 0, 1) := by decide +kernel
theorem d267_1 : decode prog_14_method_77_code 1 = .ok (.getfield 29, 3) := by decide +kernel
theorem d267_4 : decode prog_14_method_77_code 4 = .ok (.aload_n 0, 1) := by decide +kernel
theorem d267_5 : decode prog_14_method_77_code 5 = .ok (.getfield 74, 3) := by decide +kernel
theorem d267_8 : decode prog_14_method_77_code 8 = .ok (.aload_n 0, 1) := by decide +kernel
theorem d267_9 : decode prog_14_method_77_code 9 = .ok (.getfield 542, 3) := by decide +kernel
theorem d267_12 : decode prog_14_method_77_code 12 = .ok (.iconst 1, 1) := by decide +kernel
theorem d267_13 : decode prog_14_method_77_code 13 = .ok (.isub, 1) := by decide +kernel
theorem d267_14 : decode prog_14_method_77_code 14 = .ok (.iaload, 1) := by decide +kernel
theorem d267_15 : decode prog_14_method_77_code 15 = .ok (.iaload, 1) := by decide +kernel
theorem d267_16 : decode prog_14_method_77_code 16 = .ok (.ireturn, 1) := by decide +kernel
theorem m267 : pm_m 267 = some (⟨"TypeRulesModel", "thisKind", "()I"⟩, prog_14_method_77_code, 1, (some FieldType.int), 10, 0, 11) := rfl
theorem d292_0 : decode prog_14_method_93_code 0 = .ok (.aload_n 0, 1) := by decide +kernel
theorem d292_1 : decode prog_14_method_93_code 1 = .ok (.iload_n 1, 1) := by decide +kernel
theorem d292_2 : decode prog_14_method_93_code 2 = .ok (.invokevirtual 590, 3) := by decide +kernel
theorem d292_5 : decode prog_14_method_93_code 5 = .ok (.istore_n 3, 1) := by decide +kernel
theorem d292_6 : decode prog_14_method_93_code 6 = .ok (.iload_n 3, 1) := by decide +kernel
theorem d292_7 : decode prog_14_method_93_code 7 = .ok (.ifCond .ge 8, 3) := by decide +kernel
theorem d292_10 : decode prog_14_method_93_code 10 = .ok (.bipush 20, 2) := by decide +kernel
theorem d292_12 : decode prog_14_method_93_code 12 = .ok (.goto 19, 3) := by decide +kernel
theorem d292_15 : decode prog_14_method_93_code 15 = .ok (.aload_n 0, 1) := by decide +kernel
theorem d292_16 : decode prog_14_method_93_code 16 = .ok (.getfield 92, 3) := by decide +kernel
theorem d292_19 : decode prog_14_method_93_code 19 = .ok (.iload_n 3, 1) := by decide +kernel
theorem d292_20 : decode prog_14_method_93_code 20 = .ok (.iaload, 1) := by decide +kernel
theorem d292_21 : decode prog_14_method_93_code 21 = .ok (.iload_n 2, 1) := by decide +kernel
theorem d292_22 : decode prog_14_method_93_code 22 = .ok (.if_icmp .eq 8, 3) := by decide +kernel
theorem d292_25 : decode prog_14_method_93_code 25 = .ok (.bipush 21, 2) := by decide +kernel
theorem d292_27 : decode prog_14_method_93_code 27 = .ok (.goto 4, 3) := by decide +kernel
theorem d292_30 : decode prog_14_method_93_code 30 = .ok (.iconst 0, 1) := by decide +kernel
theorem d292_31 : decode prog_14_method_93_code 31 = .ok (.ireturn, 1) := by decide +kernel
theorem m292 : pm_m 292 = some (⟨"TypeRulesModel", "sortRule", "(II)I"⟩, prog_14_method_93_code, 4, (some FieldType.int), 10, 2, 11) := rfl
theorem d276_0 : decode prog_14_method_99_code 0 = .ok (.iconst 0, 1) := by decide +kernel
theorem d276_1 : decode prog_14_method_99_code 1 = .ok (.istore_n 2, 1) := by decide +kernel
theorem d276_2 : decode prog_14_method_99_code 2 = .ok (.aload_n 0, 1) := by decide +kernel
theorem d276_3 : decode prog_14_method_99_code 3 = .ok (.getfield 77, 3) := by decide +kernel
theorem d276_6 : decode prog_14_method_99_code 6 = .ok (.iload_n 1, 1) := by decide +kernel
theorem d276_7 : decode prog_14_method_99_code 7 = .ok (.iaload, 1) := by decide +kernel
theorem d276_8 : decode prog_14_method_99_code 8 = .ok (.istore_n 3, 1) := by decide +kernel
theorem d276_9 : decode prog_14_method_99_code 9 = .ok (.iload_n 3, 1) := by decide +kernel
theorem d276_10 : decode prog_14_method_99_code 10 = .ok (.aload_n 0, 1) := by decide +kernel
theorem d276_11 : decode prog_14_method_99_code 11 = .ok (.getfield 80, 3) := by decide +kernel
theorem d276_14 : decode prog_14_method_99_code 14 = .ok (.iload_n 1, 1) := by decide +kernel
theorem d276_15 : decode prog_14_method_99_code 15 = .ok (.iaload, 1) := by decide +kernel
theorem d276_16 : decode prog_14_method_99_code 16 = .ok (.if_icmp .ge 27, 3) := by decide +kernel
theorem d276_19 : decode prog_14_method_99_code 19 = .ok (.iload_n 2, 1) := by decide +kernel
theorem d276_20 : decode prog_14_method_99_code 20 = .ok (.aload_n 0, 1) := by decide +kernel
theorem d276_21 : decode prog_14_method_99_code 21 = .ok (.getfield 98, 3) := by decide +kernel
theorem d276_24 : decode prog_14_method_99_code 24 = .ok (.iload_n 3, 1) := by decide +kernel
theorem d276_25 : decode prog_14_method_99_code 25 = .ok (.iaload, 1) := by decide +kernel
theorem d276_26 : decode prog_14_method_99_code 26 = .ok (.iconst 1, 1) := by decide +kernel
theorem d276_27 : decode prog_14_method_99_code 27 = .ok (.if_icmp .ne 7, 3) := by decide +kernel
theorem d276_30 : decode prog_14_method_99_code 30 = .ok (.iconst 1, 1) := by decide +kernel
theorem d276_31 : decode prog_14_method_99_code 31 = .ok (.goto 4, 3) := by decide +kernel
theorem d276_34 : decode prog_14_method_99_code 34 = .ok (.iconst 0, 1) := by decide +kernel
theorem d276_35 : decode prog_14_method_99_code 35 = .ok (.iadd, 1) := by decide +kernel
theorem d276_36 : decode prog_14_method_99_code 36 = .ok (.istore_n 2, 1) := by decide +kernel
theorem d276_37 : decode prog_14_method_99_code 37 = .ok (.iinc 3 1, 3) := by decide +kernel
theorem d276_40 : decode prog_14_method_99_code 40 = .ok (.goto (-31), 3) := by decide +kernel
theorem d276_43 : decode prog_14_method_99_code 43 = .ok (.iload_n 2, 1) := by decide +kernel
theorem d276_44 : decode prog_14_method_99_code 44 = .ok (.ireturn, 1) := by decide +kernel
theorem m276 : pm_m 276 = some (⟨"TypeRulesModel", "inputs", "(I)I"⟩, prog_14_method_99_code, 4, (some FieldType.int), 10, 1, 11) := rfl
/-! LOOK-UPS of the reference -/
theorem rv_get : ∀ {B : List rl_B} {b : Nat} {y : rl_B}, rl_blk B b = some y → rv_fr B b + y.2.2.2.2.length ≤ (rv_L B).length ∧ ∀ j, j < y.2.2.2.2.length → (rv_L B)[rv_fr B b + j]? = y.2.2.2.2.reverse[j]?
  | [], b, y, h => by unfold rl_blk at h; simp at h
  | z :: r, b, y, h => by
    rw [rl_blkc] at h
    by_cases q : b = r.length
    · rw [if_pos q] at h
      cases h
      have e : rv_fr (z :: r) b = (rv_L r).length := by
        unfold rv_fr
        rw [List.length_cons, q, show r.length + 1 - r.length = 1 by omega]; rfl
      rw [e]
      refine ⟨?_, fun j hj => ?_⟩
      · show _ ≤ (rv_L r ++ z.2.2.2.2.reverse).length
        rw [List.length_append, List.length_reverse]; omega
      · show (rv_L r ++ z.2.2.2.2.reverse)[_]? = _
        rw [List.getElem?_append_right (by omega), Nat.add_sub_cancel_left]
    · rw [if_neg q] at h
      have hl := rl_blkl h
      have e : rv_fr (z :: r) b = rv_fr r b := by
        unfold rv_fr
        rw [List.length_cons, show r.length + 1 - b = (r.length - b) + 1 by omega, List.drop_succ_cons]
      obtain ⟨g1, g2⟩ := rv_get h
      rw [e]
      refine ⟨?_, fun j hj => ?_⟩
      · show _ ≤ (rv_L r ++ z.2.2.2.2.reverse).length
        rw [List.length_append]; omega
      · show (rv_L r ++ z.2.2.2.2.reverse)[_]? = _
        rw [List.getElem?_append_left (by omega)]
        exact g2 j hj
theorem rl_funi {vs : List rl_V} {x : Int32} {v : rl_V} (hp : vs.Pairwise (fun a b => a.1 ≠ b.1)) (hv : v ∈ vs) (hx : v.1 = x) : rl_find vs x = some v := by
  induction vs with
  | nil => exact absurd hv List.not_mem_nil
  | cons w vs ih =>
    obtain ⟨h1, h2⟩ := List.pairwise_cons.mp hp
    unfold rl_find
    rcases List.mem_cons.mp hv with q | q
    · rw [List.find?_cons_of_pos (by rw [← q]; simpa using hx), q]
    · rw [List.find?_cons_of_neg (by have := h1 v q; rw [hx] at this; simpa using this)]
      exact ih h2 q
theorem rl_fnon {vs : List rl_V} {x : Int32} (h : ∀ v ∈ vs, v.1 ≠ x) : rl_find vs x = none := List.find?_eq_none.mpr (fun v hv => by simpa using h v hv)
theorem re284l {d : Nat} {l : List pg_N} {a : Nat → Nat} {R : Int32 → Int32 → Prop} {σ0 σ : pm_S} {fl : Bool} {u : Nat} {A : rl_A} {Q : Option Value → pm_S → Prop} {b : Nat} {y : rl_B} {x r : Int32} (h : rr_I l a R σ0 σ fl u A) (hb : rl_blk A.1 b = some y) (hpw : y.2.2.2.2.Pairwise (fun a b => a.1 ≠ b.1)) (hR : R x r) (h0 : rl_find y.2.2.2.2 x = none → Q (some (.int (-1))) σ) (h1 : ∀ i v, rl_find y.2.2.2.2 x = some v → (rv_L A.1)[i]? = some v → i < 4096 → Q (some (.int (nI i))) σ) : ∀ (n j : Nat), j + n = y.2.2.2.2.length → (∀ k v, k < j → y.2.2.2.2.reverse[k]? = some v → v.1 ≠ x) → pm_WP pm_Y0 (pm_call pm_Y0 (d)) 10 prog_14_method_75_code (some FieldType.int) Q 7 [.ref 10, .int (nI b), .int r, .int (nI (rv_fr A.1 b + j))] [] σ := by
  obtain ⟨g1, g2⟩ := rv_get hb
  have hG := h.2.2.2.2.2.1.1
  obtain ⟨_, _, hbk⟩ := h.2.2.2.2.1
  have hB9 := h.2.2.2.2.1.1
  have hbl := rl_blkl hb
  have to := (hbk b y hb).2.2.2.2.2.1
  have eb := nI_toInt (n := b) (by omega)
  have ecb := nI_clamp (n := b) (by omega)
  have eto := nI_toInt (n := rv_fr A.1 b + y.2.2.2.2.length) (by omega)
  intro n
  induction n with
  | zero =>
    intro j hj hno
    have ej := nI_toInt (n := rv_fr A.1 b + j) (by omega)
    refine wq_l 8 d284_7 rfl rfl rfl rfl ?_
    refine wq_l 9 d284_8 rfl rfl rfl rfl ?_
    refine wq_gr (ci := 10) (j := 38) (q := 66) 12 d284_9 rfl rfl rfl rfl ?_
    refine wq_l 13 d284_12 rfl rfl rfl rfl ?_
    refine wq_al 14 d284_13 rfl rfl rfl (vp_in_iff.mpr (by rw [eb]; omega)) ?_
    rw [ecb, to]
    refine wq_b 35 17 d284_14 rfl (by decide) rfl (fun c14 => ?_) (fun c14 => absurd (by rw [i_le, eto, ej]; omega) c14)
    refine wq_k 36 (-1) d284_35 (by decide) rfl ?_
    refine wq_ri d284_36 (rfl) ?_
    refine h0 (rl_fnon (fun v hv z => ?_))
    obtain ⟨k, hk⟩ := List.getElem?_of_mem (List.mem_reverse.mpr hv)
    have kl : k < y.2.2.2.2.length := by
      rcases Nat.lt_or_ge k y.2.2.2.2.length with w | w
      · exact w
      · rw [List.getElem?_eq_none (by rw [List.length_reverse]; exact w)] at hk; cases hk
    exact hno k v (by omega) hk z
  | succ n ih =>
    intro j hj hno
    have ej := nI_toInt (n := rv_fr A.1 b + j) (by omega)
    have ecj := nI_clamp (n := rv_fr A.1 b + j) (by omega)
    have hjl : j < y.2.2.2.2.reverse.length := by rw [List.length_reverse]; omega
    have ev : y.2.2.2.2.reverse[j]? = some (y.2.2.2.2.reverse[j]'hjl) := List.getElem?_eq_getElem hjl
    have eG := g2 j (by omega)
    rw [ev] at eG
    have mem : (y.2.2.2.2.reverse[j]'hjl) ∈ y.2.2.2.2 := List.mem_reverse.mp (List.getElem_mem hjl)
    generalize y.2.2.2.2.reverse[j]'hjl = v at *
    have va := (h.2.2.2.2.2.1.2.2 _ v eG).1
    have vr := (rr_R h).1 _ _ _ _ va hR
    refine wq_l 8 d284_7 rfl rfl rfl rfl ?_
    refine wq_l 9 d284_8 rfl rfl rfl rfl ?_
    refine wq_gr (ci := 10) (j := 38) (q := 66) 12 d284_9 rfl rfl rfl rfl ?_
    refine wq_l 13 d284_12 rfl rfl rfl rfl ?_
    refine wq_al 14 d284_13 rfl rfl rfl (vp_in_iff.mpr (by rw [eb]; omega)) ?_
    rw [ecb, to]
    refine wq_b 35 17 d284_14 rfl (by decide) rfl (fun c14 => absurd c14 (by rw [i_le, eto, ej]; omega)) (fun c14 => ?_)
    refine wq_l 18 d284_17 rfl rfl rfl rfl ?_
    refine wq_gr (ci := 10) (j := 42) (q := 69) 21 d284_18 rfl rfl rfl rfl ?_
    refine wq_l 22 d284_21 rfl rfl rfl rfl ?_
    refine wq_al 23 d284_22 rfl rfl rfl (vp_in_iff.mpr (by rw [ej]; omega)) ?_
    rw [ecj]
    refine wq_l 24 d284_23 rfl rfl rfl rfl ?_
    refine wq_b 29 27 d284_24 rfl (by decide) rfl (fun c24 => ?_) (fun c24 => ?_)
    · -- pc 29
      refine wq_i 32 d284_29 rfl rfl rfl ?_
      refine wq_g 7 d284_32 (by decide) ?_
      rw [show nI (rv_fr A.1 b + j) + Int32.ofInt 1 = nI (rv_fr A.1 b + (j + 1)) from nI_1 _]
      refine ih (j + 1) (by omega) (fun k w hk hw => ?_)
      by_cases q : k = j
      · rw [q, ev] at hw
        cases hw
        exact fun z => c24 (vr.mp z)
      · exact hno k w (by omega) hw
    · -- pc 27
      refine wq_l 28 d284_27 rfl rfl rfl rfl ?_
      refine wq_ri d284_28 (rfl) ?_
      exact h1 _ v (rl_funi hpw mem (vr.mpr (Classical.not_not.mp c24))) eG (by omega)
theorem re284 {d : Nat} {l : List pg_N} {a : Nat → Nat} {R : Int32 → Int32 → Prop} {σ0 σ : pm_S} {fl : Bool} {u : Nat} {A : rl_A} {Q : Option Value → pm_S → Prop} {b : Nat} {y : rl_B} {x r : Int32} (h : rr_I l a R σ0 σ fl u A) (hb : rl_blk A.1 b = some y) (hpw : y.2.2.2.2.Pairwise (fun a b => a.1 ≠ b.1)) (hR : R x r) (h0 : rl_find y.2.2.2.2 x = none → Q (some (.int (-1))) σ) (h1 : ∀ i v, rl_find y.2.2.2.2 x = some v → (rv_L A.1)[i]? = some v → i < 4096 → Q (some (.int (nI i))) σ) : pm_call pm_Y0 (d + 1) 284 [.ref 10, .int (nI b), .int r] σ Q := by
  have hB9 := h.2.2.2.2.1.1
  have hbl := rl_blkl hb
  have fr := ((h.2.2.2.2.1.2.2) b y hb).2.2.2.2.1
  have eb := nI_toInt (n := b) (by omega)
  have ecb := nI_clamp (n := b) (by omega)
  refine wq_m m284 (Nat.le_of_ble_eq_true rfl) (by decide) rfl ?_
  refine wq_l 1 d284_0 rfl rfl rfl rfl ?_
  refine wq_gr (ci := 10) (j := 37) (q := 65) 4 d284_1 rfl rfl rfl rfl ?_
  refine wq_l 5 d284_4 rfl rfl rfl rfl ?_
  refine wq_al 6 d284_5 rfl rfl rfl (vp_in_iff.mpr (by rw [eb]; omega)) ?_
  rw [ecb, fr]
  refine wq_s 7 d284_6 rfl rfl (Nat.le_of_ble_eq_true rfl) rfl rfl ?_
  exact re284l h hb hpw hR h0 h1 y.2.2.2.2.length 0 (by omega) (fun k v hk => absurd hk (Nat.not_lt_zero _))
theorem re283 {d : Nat} {l : List pg_N} {a : Nat → Nat} {R : Int32 → Int32 → Prop} {σ0 σ : pm_S} {fl : Bool} {u : Nat} {A : rl_A} {Q : Option Value → pm_S → Prop} {x r : Int32} (h : rr_I l a R σ0 σ fl u A) (hp : pv_B A.1) (hB : A.1 ≠ []) (hR : R x r) (h0 : rl_find (rl_cur A).2.2.2.2 x = none → Q (some (.int (-1))) σ) (h1 : ∀ i v, rl_find (rl_cur A).2.2.2.2 x = some v → (rv_L A.1)[i]? = some v → i < 4096 → Q (some (.int (nI i))) σ) : pm_call pm_Y0 (d + 2) 283 [.ref 10, .int r] σ Q := by
  have hl := rl_len hB
  have e35 := h.2.2.2.2.1.2.1
  have es : nI A.1.length - 1 = nI (A.1.length - 1) := nI_sbl (b := 1) (by omega)
  have pw := (pv_cur hp hB).2.2.2.2.2
  refine wq_m m283 (Nat.le_of_ble_eq_true rfl) (by decide) rfl ?_
  refine wq_l 1 d283_0 rfl rfl rfl rfl ?_
  refine wq_l 2 d283_1 rfl rfl rfl rfl ?_
  refine wq_gf (ci := 10) (j := 35) (f := 0) (v := .int (nI A.1.length)) 5 d283_2 rfl rfl rfl (congrArg Value.int (e35)) rfl ?_
  refine wq_k 6 1 d283_5 (by decide) rfl ?_
  refine wq_a 7 d283_6 rfl rfl ?_
  rw [es]
  refine wq_l 8 d283_7 rfl rfl rfl rfl ?_
  refine wq_v 11 [_, _] d283_8 rfl rfl m284 rfl rfl (Nat.le_of_ble_eq_true rfl) rfl (re284 h (rl_blkh hB) pw hR (fun e => ?_) (fun i v e1 e2 e3 => ?_))
  · refine wq_ri d283_11 rfl ?_
    exact h0 e
  · refine wq_ri d283_11 rfl ?_
    exact h1 i v e1 e2 e3
theorem re267 {d : Nat} {l : List pg_N} {a : Nat → Nat} {R : Int32 → Int32 → Prop} {σ0 σ : pm_S} {fl : Bool} {u : Nat} {A : rl_A} {Q : Option Value → pm_S → Prop} (h : rr_I l a R σ0 σ fl u A) (hB : A.1 ≠ []) (hQ : Q (some (.int (nI (rl_cur A).1))) σ) : pm_call pm_Y0 (d + 1) 267 [.ref 10] σ Q := by
  have hl := rl_len hB
  have e35 := h.2.2.2.2.1.2.1
  have hB9 := h.2.2.2.2.1.1
  have es : nI A.1.length - 1 = nI (A.1.length - 1) := nI_sbl (b := 1) (by omega)
  obtain ⟨b1, b2, b3, b4⟩ := h.2.2.2.2.1.2.2 _ _ (rl_blkh hB)
  have en := nI_toInt (n := A.1.length - 1) (by omega)
  have ec := nI_clamp (n := A.1.length - 1) (by omega)
  have ek := rt_k (rr_T h) b1
  rw [b2] at ek
  refine wq_m m267 (Nat.le_of_ble_eq_true rfl) (by decide) rfl ?_
  refine wq_l 1 d267_0 rfl rfl rfl rfl ?_
  refine wq_gr (ci := 10) (j := 16) (q := 49) 4 d267_1 rfl rfl rfl rfl ?_
  refine wq_l 5 d267_4 rfl rfl rfl rfl ?_
  refine wq_gr (ci := 10) (j := 36) (q := 64) 8 d267_5 rfl rfl rfl rfl ?_
  refine wq_l 9 d267_8 rfl rfl rfl rfl ?_
  refine wq_gf (ci := 10) (j := 35) (f := 0) (v := .int (nI A.1.length)) 12 d267_9 rfl rfl rfl (congrArg Value.int (e35)) rfl ?_
  refine wq_k 13 1 d267_12 (by decide) rfl ?_
  refine wq_a 14 d267_13 rfl rfl ?_
  rw [es]
  refine wq_al 15 d267_14 rfl rfl rfl (vp_in_iff.mpr (by rw [en]; omega)) ?_
  rw [ec, b4.1]
  refine wq_al 16 d267_15 rfl rfl rfl (rt_b (rr_T h) b1) ?_
  refine wq_ri d267_16 (rfl) ?_
  rw [ek]
  exact hQ
theorem re292 {d : Nat} {l : List pg_N} {a : Nat → Nat} {R : Int32 → Int32 → Prop} {σ0 σ : pm_S} {fl : Bool} {u : Nat} {A : rl_A} {Q : Option Value → pm_S → Prop} {x r : Int32} {s : Nat} (h : rr_I l a R σ0 σ fl u A) (hp : pv_B A.1) (hB : A.1 ≠ []) (hs : rl_setl A) (hs2 : s ≤ 2) (hR : R x r) (hQ : Q (some (.int (nI (rl_srt A x s)))) σ) : pm_call pm_Y0 (d + 3) 292 [.ref 10, .int r, .int (nI s)] σ Q := by
  refine wq_m m292 (Nat.le_of_ble_eq_true rfl) (by decide) rfl ?_
  refine wq_l 1 d292_0 rfl rfl rfl rfl ?_
  refine wq_l 2 d292_1 rfl rfl rfl rfl ?_
  refine wq_v 5 [_] d292_2 rfl rfl m283 rfl rfl (Nat.le_of_ble_eq_true rfl) rfl (re283 h hp hB hR (fun e2 => ?_) (fun i2 v2 e2 f2 g2 => ?_))
  · -- fork 2
    rw [rl_srn e2] at hQ
    refine wq_s 6 d292_5 rfl rfl (Nat.le_of_ble_eq_true rfl) rfl rfl ?_
    refine wq_l 7 d292_6 rfl rfl rfl rfl ?_
    refine wq_b 15 10 d292_7 rfl (by decide) rfl (fun c7 => absurd c7 (by decide)) (fun c7 => ?_)
    refine wq_k 12 20 d292_10 (by decide) rfl ?_
    refine wq_g 31 d292_12 (by decide) ?_
    refine wq_ri d292_31 (rfl) ?_
    exact hQ
  · -- fork 2
    have m2 := rl_find_m e2
    have s2 := ((h.2.2.2.2.2.1.2.2) i2 v2 f2).2.1 (hs v2 m2)
    have ei := nI_toInt (n := i2) (by omega)
    have ec := nI_clamp (n := i2) (by omega)
    have sl := ((pv_cur hp hB).2.2.2.2.1 v2 m2).1
    refine wq_s 6 d292_5 rfl rfl (Nat.le_of_ble_eq_true rfl) rfl rfl ?_
    refine wq_l 7 d292_6 rfl rfl rfl rfl ?_
    refine wq_b 15 10 d292_7 rfl (by decide) rfl (fun c7 => ?_) (fun c7 => absurd (by rw [i_le, ei]; show (0 : Int) ≤ _; omega) c7)
    refine wq_l 16 d292_15 rfl rfl rfl rfl ?_
    refine wq_gr (ci := 10) (j := 43) (q := 70) 19 d292_16 rfl rfl rfl rfl ?_
    refine wq_l 20 d292_19 rfl rfl rfl rfl ?_
    refine wq_al 21 d292_20 rfl rfl rfl (vp_in_iff.mpr (by rw [ei]; omega)) ?_
    rw [ec, s2.1]
    refine wq_l 22 d292_21 rfl rfl rfl rfl ?_
    refine wq_b 30 25 d292_22 rfl (by decide) rfl (fun c22 => ?_) (fun c22 => ?_)
    · -- pc 30
      refine wq_k 31 0 d292_30 (by decide) rfl ?_
      refine wq_ri d292_31 (rfl) ?_
      rw [rl_sr0 e2 (hp_inj (by omega) (by omega) c22)] at hQ
      exact hQ
    · -- pc 25
      refine wq_k 27 21 d292_25 (by decide) rfl ?_
      refine wq_g 31 d292_27 (by decide) ?_
      refine wq_ri d292_31 (rfl) ?_
      rw [rl_sr1 e2 (fun z => c22 (congrArg nI z))] at hQ
      exact hQ
