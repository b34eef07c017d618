theorem d282_0 : decode prog_14_method_92_code 0 = .ok (.aload_n 0, 1) := by decide +kernel
theorem d282_1 : decode prog_14_method_92_code 1 = .ok (.getfield 29, 3) := by decide +kernel
theorem d282_4 : decode prog_14_method_92_code 4 = .ok (.aload_n 0, 1) := by decide +kernel
theorem d282_5 : decode prog_14_method_92_code 5 = .ok (.getfield 47, 3) := by decide +kernel
theorem d282_8 : decode prog_14_method_92_code 8 = .ok (.iload_n 1, 1) := by decide +kernel
theorem d282_9 : decode prog_14_method_92_code 9 = .ok (.iaload, 1) := by decide +kernel
theorem d282_10 : decode prog_14_method_92_code 10 = .ok (.iaload, 1) := by decide +kernel
theorem d282_11 : decode prog_14_method_92_code 11 = .ok (.istore_n 2, 1) := by decide +kernel
theorem d282_12 : decode prog_14_method_92_code 12 = .ok (.aload_n 0, 1) := by decide +kernel
theorem d282_13 : decode prog_14_method_92_code 13 = .ok (.getfield 35, 3) := by decide +kernel
theorem d282_16 : decode prog_14_method_92_code 16 = .ok (.iload_n 1, 1) := by decide +kernel
theorem d282_17 : decode prog_14_method_92_code 17 = .ok (.iaload, 1) := by decide +kernel
theorem d282_18 : decode prog_14_method_92_code 18 = .ok (.istore_n 3, 1) := by decide +kernel
theorem d282_19 : decode prog_14_method_92_code 19 = .ok (.iload_n 2, 1) := by decide +kernel
theorem d282_20 : decode prog_14_method_92_code 20 = .ok (.iconst 5, 1) := by decide +kernel
theorem d282_21 : decode prog_14_method_92_code 21 = .ok (.if_icmp .ne 74, 3) := by decide +kernel
theorem d282_24 : decode prog_14_method_92_code 24 = .ok (.aload_n 0, 1) := by decide +kernel
theorem d282_25 : decode prog_14_method_92_code 25 = .ok (.iload_n 3, 1) := by decide +kernel
theorem d282_26 : decode prog_14_method_92_code 26 = .ok (.invokevirtual 590, 3) := by decide +kernel
theorem d282_29 : decode prog_14_method_92_code 29 = .ok (.ifCond .ge 39, 3) := by decide +kernel
theorem d282_32 : decode prog_14_method_92_code 32 = .ok (.aload_n 0, 1) := by decide +kernel
theorem d282_33 : decode prog_14_method_92_code 33 = .ok (.iload_n 3, 1) := by decide +kernel
theorem d282_34 : decode prog_14_method_92_code 34 = .ok (.aload_n 0, 1) := by decide +kernel
theorem d282_35 : decode prog_14_method_92_code 35 = .ok (.getfield 542, 3) := by decide +kernel
theorem d282_38 : decode prog_14_method_92_code 38 = .ok (.invokevirtual 565, 3) := by decide +kernel
theorem d282_41 : decode prog_14_method_92_code 41 = .ok (.ifCond .ge 27, 3) := by decide +kernel
theorem d282_44 : decode prog_14_method_92_code 44 = .ok (.aload_n 0, 1) := by decide +kernel
theorem d282_45 : decode prog_14_method_92_code 45 = .ok (.getfield 22, 3) := by decide +kernel
theorem d282_48 : decode prog_14_method_92_code 48 = .ok (.iload_n 3, 1) := by decide +kernel
theorem d282_49 : decode prog_14_method_92_code 49 = .ok (.laload, 1) := by decide +kernel
theorem d282_50 : decode prog_14_method_92_code 50 = .ok (.invokestatic 558, 3) := by decide +kernel
theorem d282_53 : decode prog_14_method_92_code 53 = .ok (.ifCond .ge 15, 3) := by decide +kernel
theorem d282_56 : decode prog_14_method_92_code 56 = .ok (.aload_n 0, 1) := by decide +kernel
theorem d282_57 : decode prog_14_method_92_code 57 = .ok (.getfield 22, 3) := by decide +kernel
theorem d282_60 : decode prog_14_method_92_code 60 = .ok (.iload_n 3, 1) := by decide +kernel
theorem d282_61 : decode prog_14_method_92_code 61 = .ok (.laload, 1) := by decide +kernel
theorem d282_62 : decode prog_14_method_92_code 62 = .ok (.invokestatic 562, 3) := by decide +kernel
theorem d282_65 : decode prog_14_method_92_code 65 = .ok (.ifCond .lt 7, 3) := by decide +kernel
theorem d282_68 : decode prog_14_method_92_code 68 = .ok (.iconst 1, 1) := by decide +kernel
theorem d282_69 : decode prog_14_method_92_code 69 = .ok (.goto 4, 3) := by decide +kernel
theorem d282_72 : decode prog_14_method_92_code 72 = .ok (.iconst 0, 1) := by decide +kernel
theorem d282_73 : decode prog_14_method_92_code 73 = .ok (.istore 4, 2) := by decide +kernel
theorem d282_75 : decode prog_14_method_92_code 75 = .ok (.aload_n 0, 1) := by decide +kernel
theorem d282_76 : decode prog_14_method_92_code 76 = .ok (.iload_n 3, 1) := by decide +kernel
theorem d282_77 : decode prog_14_method_92_code 77 = .ok (.iconst (-1), 1) := by decide +kernel
theorem d282_78 : decode prog_14_method_92_code 78 = .ok (.iconst 0, 1) := by decide +kernel
theorem d282_79 : decode prog_14_method_92_code 79 = .ok (.iconst 0, 1) := by decide +kernel
theorem d282_80 : decode prog_14_method_92_code 80 = .ok (.invokevirtual 571, 3) := by decide +kernel
theorem d282_83 : decode prog_14_method_92_code 83 = .ok (.iload 4, 2) := by decide +kernel
theorem d282_85 : decode prog_14_method_92_code 85 = .ok (.ifCond .eq 8, 3) := by decide +kernel
theorem d282_88 : decode prog_14_method_92_code 88 = .ok (.bipush 12, 2) := by decide +kernel
theorem d282_90 : decode prog_14_method_92_code 90 = .ok (.goto 4, 3) := by decide +kernel
theorem d282_93 : decode prog_14_method_92_code 93 = .ok (.iconst 0, 1) := by decide +kernel
theorem d282_94 : decode prog_14_method_92_code 94 = .ok (.ireturn, 1) := by decide +kernel
theorem d282_95 : decode prog_14_method_92_code 95 = .ok (.iload_n 2, 1) := by decide +kernel
theorem d282_96 : decode prog_14_method_92_code 96 = .ok (.bipush 33, 2) := by decide +kernel
theorem d282_98 : decode prog_14_method_92_code 98 = .ok (.if_icmp .ne 5, 3) := by decide +kernel
theorem d282_101 : decode prog_14_method_92_code 101 = .ok (.iconst 0, 1) := by decide +kernel
theorem d282_102 : decode prog_14_method_92_code 102 = .ok (.ireturn, 1) := by decide +kernel
theorem d282_103 : decode prog_14_method_92_code 103 = .ok (.aload_n 0, 1) := by decide +kernel
theorem d282_104 : decode prog_14_method_92_code 104 = .ok (.iload_n 3, 1) := by decide +kernel
theorem d282_105 : decode prog_14_method_92_code 105 = .ok (.invokevirtual 590, 3) := by decide +kernel
theorem d282_108 : decode prog_14_method_92_code 108 = .ok (.istore 4, 2) := by decide +kernel
theorem d282_110 : decode prog_14_method_92_code 110 = .ok (.iload 4, 2) := by decide +kernel
theorem d282_112 : decode prog_14_method_92_code 112 = .ok (.ifCond .ge 6, 3) := by decide +kernel
theorem d282_115 : decode prog_14_method_92_code 115 = .ok (.bipush 20, 2) := by decide +kernel
theorem d282_117 : decode prog_14_method_92_code 117 = .ok (.ireturn, 1) := by decide +kernel
theorem d282_118 : decode prog_14_method_92_code 118 = .ok (.aload_n 0, 1) := by decide +kernel
theorem d282_119 : decode prog_14_method_92_code 119 = .ok (.getfield 92, 3) := by decide +kernel
theorem d282_122 : decode prog_14_method_92_code 122 = .ok (.iload 4, 2) := by decide +kernel
theorem d282_124 : decode prog_14_method_92_code 124 = .ok (.iaload, 1) := by decide +kernel
theorem d282_125 : decode prog_14_method_92_code 125 = .ok (.ifCond .eq 6, 3) := by decide +kernel
theorem d282_128 : decode prog_14_method_92_code 128 = .ok (.bipush 21, 2) := by decide +kernel
theorem d282_130 : decode prog_14_method_92_code 130 = .ok (.ireturn, 1) := by decide +kernel
theorem d282_131 : decode prog_14_method_92_code 131 = .ok (.aload_n 0, 1) := by decide +kernel
theorem d282_132 : decode prog_14_method_92_code 132 = .ok (.getfield 50, 3) := by decide +kernel
theorem d282_135 : decode prog_14_method_92_code 135 = .ok (.iload_n 1, 1) := by decide +kernel
theorem d282_136 : decode prog_14_method_92_code 136 = .ok (.aload_n 0, 1) := by decide +kernel
theorem d282_137 : decode prog_14_method_92_code 137 = .ok (.getfield 95, 3) := by decide +kernel
theorem d282_140 : decode prog_14_method_92_code 140 = .ok (.iload 4, 2) := by decide +kernel
theorem d282_142 : decode prog_14_method_92_code 142 = .ok (.iaload, 1) := by decide +kernel
theorem d282_143 : decode prog_14_method_92_code 143 = .ok (.iastore, 1) := by decide +kernel
theorem d282_144 : decode prog_14_method_92_code 144 = .ok (.aload_n 0, 1) := by decide +kernel
theorem d282_145 : decode prog_14_method_92_code 145 = .ok (.getfield 53, 3) := by decide +kernel
theorem d282_148 : decode prog_14_method_92_code 148 = .ok (.iload_n 1, 1) := by decide +kernel
theorem d282_149 : decode prog_14_method_92_code 149 = .ok (.aload_n 0, 1) := by decide +kernel
theorem d282_150 : decode prog_14_method_92_code 150 = .ok (.getfield 104, 3) := by decide +kernel
theorem d282_153 : decode prog_14_method_92_code 153 = .ok (.iload 4, 2) := by decide +kernel
theorem d282_155 : decode prog_14_method_92_code 155 = .ok (.iaload, 1) := by decide +kernel
theorem d282_156 : decode prog_14_method_92_code 156 = .ok (.iastore, 1) := by decide +kernel
theorem d282_157 : decode prog_14_method_92_code 157 = .ok (.iconst 0, 1) := by decide +kernel
theorem d282_158 : decode prog_14_method_92_code 158 = .ok (.ireturn, 1) := by decide +kernel
theorem m282 : pm_m 282 = some (⟨"TypeRulesModel", "nameRule", "(I)I"⟩, prog_14_method_92_code, 5, (some FieldType.int), 10, 1, 11) := rfl
/-! NAMES of the reference -/
theorem rn_ge {c : Prop} [Decidable c] {n : Nat} (hn : c → n < 2 ^ 31) : (0 : Int32) ≤ (if c then nI n else -1) ↔ c := by
  by_cases q : c
  · rw [if_pos q, i_le, nI_toInt (hn q)]; exact ⟨fun _ => q, fun _ => by show (0 : Int) ≤ _; omega⟩
  · rw [if_neg q]; exact ⟨fun z => absurd z (by decide), fun z => absurd z q⟩
theorem rn_ow {B : List rl_B} {x : Int32} (hB : B.length ≤ 409) : (0 : Int32) ≤ hp_oi ((rl_own B x).map (·.1)) ↔ (rl_own B x).isSome = true := by
  cases ho : rl_own B x with
  | none => exact ⟨fun z => absurd z (by decide), fun z => absurd z (by decide)⟩
  | some w =>
    obtain ⟨b, y⟩ := w
    have := rl_blkl (rl_ownb ho).1
    refine ⟨fun _ => rfl, fun _ => ?_⟩
    show (0 : Int32) ≤ nI b
    rw [i_le, nI_toInt (by omega)]; show (0 : Int) ≤ _; omega
theorem rn_sb {x : Int32} (hx : 0 ≤ x.toInt) : (41 ≤ x.toNatClampNeg ∧ x.toNatClampNeg < 50) ↔ (rl_sb x).isSome = true := by
  have cx := cl_i x hx
  unfold rl_sb
  by_cases q : 41 ≤ x.toInt ∧ x.toInt < 50
  · rw [if_pos q]; exact ⟨fun _ => rfl, fun _ => by omega⟩
  · rw [if_neg q]; exact ⟨fun z => by omega, fun z => absurd z (by decide)⟩
theorem rn_fn {x : Int32} (hx : 0 ≤ x.toInt) : (50 ≤ x.toNatClampNeg ∧ x.toNatClampNeg < 60) ↔ (rl_fn x).isSome = true := by
  have cx := cl_i x hx
  unfold rl_fn
  by_cases q : 50 ≤ x.toInt ∧ x.toInt < 60
  · rw [if_pos q]; exact ⟨fun _ => rfl, fun _ => by omega⟩
  · rw [if_neg q]; exact ⟨fun z => by omega, fun z => absurd z (by decide)⟩
theorem re282 {d : Nat} {l : List pg_N} {a : Nat → Nat} {R : Int32 → Int32 → Prop} {σ0 σ : pm_S} {fl : Bool} {u : Nat} {A : rl_A} {Q : Option Value → pm_S → Prop} {NN i p : Nat} (hG : lg_G l NN) (h : rr_I l a R σ0 σ fl u A) (hp : pv_B A.1) (hB : A.1 ≠ []) (i0 : i < l.length) (hi : 0 < i) (hk : rl_k l i = 6) (hpp : rl_par l i = p) (hpl : p < l.length) (hs : rl_k l p ≠ 5 → rl_k l p ≠ 33 → rl_setl A) (hn : rl_k l p = 5 → (rv_L A.1).length < 4096) (hQ : rr_Q l a R σ0 fl u (rl_out l A i) Q) : pm_call pm_Y0 (d + 3) 282 [.ref 10, .int (nI (a i))] σ Q := by
  rw [rl_o6 hk, hpp] at hQ
  have hl := rl_len hB
  have e35 := h.2.2.2.2.1.2.1
  have e41 := h.2.2.2.2.2.1.2.1
  have hB9 := h.2.2.2.2.1.1
  have bi := rt_b (rr_T h) i0
  have bp := rt_b (rr_T h) hpl
  have em := rt_m (rr_T h) i0
  have hR := rt_R (rr_T h) i0 (by rw [hk]; rfl)
  have kp := (lg_V hG hpl).1
  have kk := rt_k (rr_T h) hpl
  obtain ⟨r1, r2, r3, r4⟩ := (rr_R h).2 _ _ hR
  have eq := (rt_q (rr_T h) hG i0).trans (if_neg (by omega))
  rw [hpp] at eq
  by_cases k5 : rl_k l p = 5
  · rw [if_pos k5] at hQ
    have hn := hn k5
    have no : ∀ (_ : (rl_find (rl_cur A).2.2.2.2 (rl_v l i)).isSome = true ∨ rl_taken A (rl_v l i) = true) σ', rr_F σ0 σ' → Q (some (.int 12)) σ' := fun z σ' hF => by
      rw [if_pos z] at hQ
      exact rr_q1 (k := 12) hQ hF rfl (by decide)
    have ok : ¬ ((rl_find (rl_cur A).2.2.2.2 (rl_v l i)).isSome = true ∨ rl_taken A (rl_v l i) = true) → ∀ σ', ra_X σ σ' (rv_L A.1).length (A.1.length - 1) (σ.2.2 51 (a i)) (-1) 0 0 → Q (some (.int 0)) σ' := fun z σ' X => by
      rw [if_neg z] at hQ
      have hF := ra_F (rr_Fi h) X
      obtain ⟨x1, x2, x3, x4, x5, x6, x7, x8, x9, x10, x11, x12⟩ := X
      refine rr_q0 hQ ?_ rfl
      obtain ⟨B, T⟩ := A
      cases B with
      | nil => exact absurd rfl hB
      | cons y r =>
        refine rr_addv (v := (rl_v l i, 3, 0, (rl_v l (rl_par l p)).toNatClampNeg, -1, 0)) h hF (fun k k1 k2 => x4 k (by omega) (by omega)) (x4 64 (by omega) (by omega)) (x4 65 (by omega) (by omega)) (x4 67 (by omega) (by omega)) x5 x2 ((x1 10 35).resolve_left (by omega)) ((x1 10 48).resolve_left (by omega)) x6 hn ⟨?_, fun z => absurd rfl z, fun _ => ⟨x10, x11⟩⟩
        show R (rl_v l i) (σ'.2.2 69 (rv_L (y :: r)).length)
        have x7 : σ'.2.2 69 (rv_L (y :: r)).length = σ.2.2 51 (a i) := x7
        rw [x7]; exact hR
    refine wq_m m282 (Nat.le_of_ble_eq_true rfl) (by decide) rfl ?_
    refine wq_l 1 d282_0 rfl rfl rfl rfl ?_
    refine wq_gr (ci := 10) (j := 16) (q := 49) 4 d282_1 rfl rfl rfl rfl ?_
    refine wq_l 5 d282_4 rfl rfl rfl rfl ?_
    refine wq_gr (ci := 10) (j := 22) (q := 55) 8 d282_5 rfl rfl rfl rfl ?_
    refine wq_l 9 d282_8 rfl rfl rfl rfl ?_
    refine wq_al 10 d282_9 rfl rfl rfl (bi) ?_
    rw [eq]
    refine wq_al 11 d282_10 rfl rfl rfl (bp) ?_
    rw [kk]
    refine wq_s 12 d282_11 rfl rfl (Nat.le_of_ble_eq_true rfl) rfl rfl ?_
    refine wq_l 13 d282_12 rfl rfl rfl rfl ?_
    refine wq_gr (ci := 10) (j := 18) (q := 51) 16 d282_13 rfl rfl rfl rfl ?_
    refine wq_l 17 d282_16 rfl rfl rfl rfl ?_
    refine wq_al 18 d282_17 rfl rfl rfl (bi) ?_
    rw [em]
    refine wq_s 19 d282_18 rfl rfl (Nat.le_of_ble_eq_true rfl) rfl rfl ?_
    refine wq_l 20 d282_19 rfl rfl rfl rfl ?_
    refine wq_k 21 5 d282_20 (by decide) rfl ?_
    refine wq_b 95 24 d282_21 rfl (by decide) rfl (fun c21 => absurd c21 (fun z => z (by rw [k5]; rfl))) (fun c21 => ?_)
    refine wq_l 25 d282_24 rfl rfl rfl rfl ?_
    refine wq_l 26 d282_25 rfl rfl rfl rfl ?_
    refine wq_v 29 [_] d282_26 rfl rfl m283 rfl rfl (Nat.le_of_ble_eq_true rfl) rfl (re283 h hp hB hR (fun e2 => ?_) (fun i2 v2 e2 f2 g2 => ?_))
    · -- fork 26
      refine wq_b 68 32 d282_29 rfl (by decide) rfl (fun c29 => absurd c29 (by decide)) (fun c29 => ?_)
      refine wq_l 33 d282_32 rfl rfl rfl rfl ?_
      refine wq_l 34 d282_33 rfl rfl rfl rfl ?_
      refine wq_l 35 d282_34 rfl rfl rfl rfl ?_
      refine wq_gf (ci := 10) (j := 35) (f := 0) (v := .int (nI A.1.length)) 38 d282_35 rfl rfl rfl (congrArg Value.int (e35)) rfl ?_
      refine wq_v 41 [_, _] d282_38 rfl rfl m270 rfl rfl (Nat.le_of_ble_eq_true rfl) rfl (re270a h hp hR ?_)
      refine wq_b 68 44 d282_41 rfl (by decide) rfl (fun c41 => ?_) (fun c41 => ?_)
      · -- pc 68
        refine wq_k 69 1 d282_68 (by decide) rfl ?_
        refine wq_g 73 d282_69 (by decide) ?_
        refine wq_s 75 d282_73 rfl rfl (Nat.le_of_ble_eq_true rfl) rfl rfl ?_
        refine wq_l 76 d282_75 rfl rfl rfl rfl ?_
        refine wq_l 77 d282_76 rfl rfl rfl rfl ?_
        refine wq_k 78 (-1) d282_77 (by decide) rfl ?_
        refine wq_k 79 0 d282_78 (by decide) rfl ?_
        refine wq_k 80 0 d282_79 (by decide) rfl ?_
        refine wq_v 83 [_, _, _, _] d282_80 rfl rfl m271 rfl rfl (Nat.le_of_ble_eq_true rfl) rfl (re271 e41 e35 hn hl hB9 (fun σ1 X => ?_))
        refine wq_l 85 d282_83 rfl rfl rfl rfl ?_
        refine wq_b 93 88 d282_85 rfl (by decide) rfl (fun c85 => absurd c85 (by decide)) (fun c85 => ?_)
        refine wq_k 90 12 d282_88 (by decide) rfl ?_
        refine wq_g 94 d282_90 (by decide) ?_
        refine wq_ri d282_94 (rfl) ?_
        exact no (Or.inr (by unfold rl_taken; rw [(rn_ow hB9).mp c41, Bool.or_true])) σ1 (ra_F (rr_Fi h) X)
      · -- pc 44
        refine wq_l 45 d282_44 rfl rfl rfl rfl ?_
        refine wq_gr (ci := 10) (j := 13) (q := 47) 48 d282_45 rfl rfl rfl rfl ?_
        refine wq_l 49 d282_48 rfl rfl rfl rfl ?_
        refine wq_ll 50 d282_49 rfl rfl (vp_in_iff.mpr ⟨r2, r3⟩) ?_
        refine wq_vs 53 [_] d282_50 rfl rfl m268 rfl (Nat.le_of_ble_eq_true rfl) rfl (sp268 (v := (rl_v l i).toNatClampNeg) r4 ?_)
        refine wq_b 68 56 d282_53 rfl (by decide) rfl (fun c53 => ?_) (fun c53 => ?_)
        · -- pc 68
          refine wq_k 69 1 d282_68 (by decide) rfl ?_
          refine wq_g 73 d282_69 (by decide) ?_
          refine wq_s 75 d282_73 rfl rfl (Nat.le_of_ble_eq_true rfl) rfl rfl ?_
          refine wq_l 76 d282_75 rfl rfl rfl rfl ?_
          refine wq_l 77 d282_76 rfl rfl rfl rfl ?_
          refine wq_k 78 (-1) d282_77 (by decide) rfl ?_
          refine wq_k 79 0 d282_78 (by decide) rfl ?_
          refine wq_k 80 0 d282_79 (by decide) rfl ?_
          refine wq_v 83 [_, _, _, _] d282_80 rfl rfl m271 rfl rfl (Nat.le_of_ble_eq_true rfl) rfl (re271 e41 e35 hn hl hB9 (fun σ1 X => ?_))
          refine wq_l 85 d282_83 rfl rfl rfl rfl ?_
          refine wq_b 93 88 d282_85 rfl (by decide) rfl (fun c85 => absurd c85 (by decide)) (fun c85 => ?_)
          refine wq_k 90 12 d282_88 (by decide) rfl ?_
          refine wq_g 94 d282_90 (by decide) ?_
          refine wq_ri d282_94 (rfl) ?_
          exact no (Or.inr (by unfold rl_taken; rw [(rn_sb r1).mp ((rn_ge (fun z => by omega)).mp c53), Bool.true_or, Bool.true_or])) σ1 (ra_F (rr_Fi h) X)
        · -- pc 56
          refine wq_l 57 d282_56 rfl rfl rfl rfl ?_
          refine wq_gr (ci := 10) (j := 13) (q := 47) 60 d282_57 rfl rfl rfl rfl ?_
          refine wq_l 61 d282_60 rfl rfl rfl rfl ?_
          refine wq_ll 62 d282_61 rfl rfl (vp_in_iff.mpr ⟨r2, r3⟩) ?_
          refine wq_vs 65 [_] d282_62 rfl rfl m269 rfl (Nat.le_of_ble_eq_true rfl) rfl (sp269 (v := (rl_v l i).toNatClampNeg) r4 ?_)
          refine wq_b 72 68 d282_65 rfl (by decide) rfl (fun c65 => ?_) (fun c65 => ?_)
          · -- pc 72
            refine wq_k 73 0 d282_72 (by decide) rfl ?_
            refine wq_s 75 d282_73 rfl rfl (Nat.le_of_ble_eq_true rfl) rfl rfl ?_
            refine wq_l 76 d282_75 rfl rfl rfl rfl ?_
            refine wq_l 77 d282_76 rfl rfl rfl rfl ?_
            refine wq_k 78 (-1) d282_77 (by decide) rfl ?_
            refine wq_k 79 0 d282_78 (by decide) rfl ?_
            refine wq_k 80 0 d282_79 (by decide) rfl ?_
            refine wq_v 83 [_, _, _, _] d282_80 rfl rfl m271 rfl rfl (Nat.le_of_ble_eq_true rfl) rfl (re271 e41 e35 hn hl hB9 (fun σ1 X => ?_))
            refine wq_l 85 d282_83 rfl rfl rfl rfl ?_
            refine wq_b 93 88 d282_85 rfl (by decide) rfl (fun c85 => ?_) (fun c85 => absurd (by decide) c85)
            refine wq_k 94 0 d282_93 (by decide) rfl ?_
            refine wq_ri d282_94 (rfl) ?_
            refine ok (fun z => ?_) σ1 X
            rcases z with z | z
            · rw [e2] at z; exact absurd z (by decide)
            · unfold rl_taken at z
              rw [Bool.or_eq_true, Bool.or_eq_true] at z
              rcases z with (z | z) | z
              · exact c53 ((rn_ge (fun z => by omega)).mpr ((rn_sb r1).mpr z))
              · exact absurd c65 (Int32.not_lt.mpr ((rn_ge (fun z => by omega)).mpr ((rn_fn r1).mpr z)))
              · exact c41 ((rn_ow hB9).mpr z)
          · -- pc 68
            refine wq_k 69 1 d282_68 (by decide) rfl ?_
            refine wq_g 73 d282_69 (by decide) ?_
            refine wq_s 75 d282_73 rfl rfl (Nat.le_of_ble_eq_true rfl) rfl rfl ?_
            refine wq_l 76 d282_75 rfl rfl rfl rfl ?_
            refine wq_l 77 d282_76 rfl rfl rfl rfl ?_
            refine wq_k 78 (-1) d282_77 (by decide) rfl ?_
            refine wq_k 79 0 d282_78 (by decide) rfl ?_
            refine wq_k 80 0 d282_79 (by decide) rfl ?_
            refine wq_v 83 [_, _, _, _] d282_80 rfl rfl m271 rfl rfl (Nat.le_of_ble_eq_true rfl) rfl (re271 e41 e35 hn hl hB9 (fun σ1 X => ?_))
            refine wq_l 85 d282_83 rfl rfl rfl rfl ?_
            refine wq_b 93 88 d282_85 rfl (by decide) rfl (fun c85 => absurd c85 (by decide)) (fun c85 => ?_)
            refine wq_k 90 12 d282_88 (by decide) rfl ?_
            refine wq_g 94 d282_90 (by decide) ?_
            refine wq_ri d282_94 (rfl) ?_
            exact no (Or.inr (by unfold rl_taken; rw [(rn_fn r1).mp ((rn_ge (fun z => by omega)).mp (Int32.not_lt.mp c65)), Bool.or_true, Bool.true_or])) σ1 (ra_F (rr_Fi h) X)
    · -- fork 26
      have ei := nI_toInt (n := i2) (by omega)
      have ec := nI_clamp (n := i2) (by omega)
      refine wq_b 68 32 d282_29 rfl (by decide) rfl (fun c29 => ?_) (fun c29 => absurd (by rw [i_le, ei]; show (0 : Int) ≤ _; omega) c29)
      refine wq_k 69 1 d282_68 (by decide) rfl ?_
      refine wq_g 73 d282_69 (by decide) ?_
      refine wq_s 75 d282_73 rfl rfl (Nat.le_of_ble_eq_true rfl) rfl rfl ?_
      refine wq_l 76 d282_75 rfl rfl rfl rfl ?_
      refine wq_l 77 d282_76 rfl rfl rfl rfl ?_
      refine wq_k 78 (-1) d282_77 (by decide) rfl ?_
      refine wq_k 79 0 d282_78 (by decide) rfl ?_
      refine wq_k 80 0 d282_79 (by decide) rfl ?_
      refine wq_v 83 [_, _, _, _] d282_80 rfl rfl m271 rfl rfl (Nat.le_of_ble_eq_true rfl) rfl (re271 e41 e35 hn hl hB9 (fun σ1 X => ?_))
      refine wq_l 85 d282_83 rfl rfl rfl rfl ?_
      refine wq_b 93 88 d282_85 rfl (by decide) rfl (fun c85 => absurd c85 (by decide)) (fun c85 => ?_)
      refine wq_k 90 12 d282_88 (by decide) rfl ?_
      refine wq_g 94 d282_90 (by decide) ?_
      refine wq_ri d282_94 (rfl) ?_
      exact no (Or.inl (by rw [e2]; rfl)) σ1 (ra_F (rr_Fi h) X)
  · rw [if_neg k5] at hQ
    have n5 : ¬ nI (rl_k l p) = 5 := fun z => k5 (hp_inj (b := 5) (by omega) (by decide) z)
    by_cases k33 : rl_k l p = 33
    · rw [if_pos k33] at hQ
      refine wq_m m282 (Nat.le_of_ble_eq_true rfl) (by decide) rfl ?_
      refine wq_l 1 d282_0 rfl rfl rfl rfl ?_
      refine wq_gr (ci := 10) (j := 16) (q := 49) 4 d282_1 rfl rfl rfl rfl ?_
      refine wq_l 5 d282_4 rfl rfl rfl rfl ?_
      refine wq_gr (ci := 10) (j := 22) (q := 55) 8 d282_5 rfl rfl rfl rfl ?_
      refine wq_l 9 d282_8 rfl rfl rfl rfl ?_
      refine wq_al 10 d282_9 rfl rfl rfl (bi) ?_
      rw [eq]
      refine wq_al 11 d282_10 rfl rfl rfl (bp) ?_
      rw [kk]
      refine wq_s 12 d282_11 rfl rfl (Nat.le_of_ble_eq_true rfl) rfl rfl ?_
      refine wq_l 13 d282_12 rfl rfl rfl rfl ?_
      refine wq_gr (ci := 10) (j := 18) (q := 51) 16 d282_13 rfl rfl rfl rfl ?_
      refine wq_l 17 d282_16 rfl rfl rfl rfl ?_
      refine wq_al 18 d282_17 rfl rfl rfl (bi) ?_
      rw [em]
      refine wq_s 19 d282_18 rfl rfl (Nat.le_of_ble_eq_true rfl) rfl rfl ?_
      refine wq_l 20 d282_19 rfl rfl rfl rfl ?_
      refine wq_k 21 5 d282_20 (by decide) rfl ?_
      refine wq_b 95 24 d282_21 rfl (by decide) rfl (fun c21 => ?_) (fun c21 => absurd (n5) c21)
      refine wq_l 96 d282_95 rfl rfl rfl rfl ?_
      refine wq_k 98 33 d282_96 (by decide) rfl ?_
      refine wq_b 103 101 d282_98 rfl (by decide) rfl (fun c98 => absurd c98 (fun z => z (by rw [k33]; rfl))) (fun c98 => ?_)
      refine wq_k 102 0 d282_101 (by decide) rfl ?_
      refine wq_ri d282_102 (rfl) ?_
      exact rr_q0 hQ h rfl
    · rw [if_neg k33] at hQ
      have n33 : ¬ nI (rl_k l p) = 33 := fun z => k33 (hp_inj (b := 33) (by omega) (by decide) z)
      have hs := hs k5 k33
      refine wq_m m282 (Nat.le_of_ble_eq_true rfl) (by decide) rfl ?_
      refine wq_l 1 d282_0 rfl rfl rfl rfl ?_
      refine wq_gr (ci := 10) (j := 16) (q := 49) 4 d282_1 rfl rfl rfl rfl ?_
      refine wq_l 5 d282_4 rfl rfl rfl rfl ?_
      refine wq_gr (ci := 10) (j := 22) (q := 55) 8 d282_5 rfl rfl rfl rfl ?_
      refine wq_l 9 d282_8 rfl rfl rfl rfl ?_
      refine wq_al 10 d282_9 rfl rfl rfl (bi) ?_
      rw [eq]
      refine wq_al 11 d282_10 rfl rfl rfl (bp) ?_
      rw [kk]
      refine wq_s 12 d282_11 rfl rfl (Nat.le_of_ble_eq_true rfl) rfl rfl ?_
      refine wq_l 13 d282_12 rfl rfl rfl rfl ?_
      refine wq_gr (ci := 10) (j := 18) (q := 51) 16 d282_13 rfl rfl rfl rfl ?_
      refine wq_l 17 d282_16 rfl rfl rfl rfl ?_
      refine wq_al 18 d282_17 rfl rfl rfl (bi) ?_
      rw [em]
      refine wq_s 19 d282_18 rfl rfl (Nat.le_of_ble_eq_true rfl) rfl rfl ?_
      refine wq_l 20 d282_19 rfl rfl rfl rfl ?_
      refine wq_k 21 5 d282_20 (by decide) rfl ?_
      refine wq_b 95 24 d282_21 rfl (by decide) rfl (fun c21 => ?_) (fun c21 => absurd (n5) c21)
      refine wq_l 96 d282_95 rfl rfl rfl rfl ?_
      refine wq_k 98 33 d282_96 (by decide) rfl ?_
      refine wq_b 103 101 d282_98 rfl (by decide) rfl (fun c98 => ?_) (fun c98 => absurd (n33) c98)
      refine wq_l 104 d282_103 rfl rfl rfl rfl ?_
      refine wq_l 105 d282_104 rfl rfl rfl rfl ?_
      refine wq_v 108 [_] d282_105 rfl rfl m283 rfl rfl (Nat.le_of_ble_eq_true rfl) rfl (re283 h hp hB hR (fun e2 => ?_) (fun i2 v2 e2 f2 g2 => ?_))
      · -- fork 105
        refine wq_s 110 d282_108 rfl rfl (Nat.le_of_ble_eq_true rfl) rfl rfl ?_
        refine wq_l 112 d282_110 rfl rfl rfl rfl ?_
        refine wq_b 118 115 d282_112 rfl (by decide) rfl (fun c112 => absurd c112 (by decide)) (fun c112 => ?_)
        refine wq_k 117 20 d282_115 (by decide) rfl ?_
        refine wq_ri d282_117 (rfl) ?_
        exact rr_q1 (k := 20) hQ (rr_Fi h) (rl_srn e2) (by decide)
      · -- fork 105
        have m2 := rl_find_m e2
        have s2 := ((h.2.2.2.2.2.1.2.2) i2 v2 f2).2.1 (hs v2 m2)
        have ei := nI_toInt (n := i2) (by omega)
        have ec := nI_clamp (n := i2) (by omega)
        have vs := ((pv_cur hp hB).2.2.2.2.1 v2 m2).1
        rw [rl_vrs e2] at hQ
        refine wq_s 110 d282_108 rfl rfl (Nat.le_of_ble_eq_true rfl) rfl rfl ?_
        refine wq_l 112 d282_110 rfl rfl rfl rfl ?_
        refine wq_b 118 115 d282_112 rfl (by decide) rfl (fun c112 => ?_) (fun c112 => absurd (by rw [i_le, ei]; show (0 : Int) ≤ _; omega) c112)
        refine wq_l 119 d282_118 rfl rfl rfl rfl ?_
        refine wq_gr (ci := 10) (j := 43) (q := 70) 122 d282_119 rfl rfl rfl rfl ?_
        refine wq_l 124 d282_122 rfl rfl rfl rfl ?_
        refine wq_al 125 d282_124 rfl rfl rfl (vp_in_iff.mpr (by rw [ei]; omega)) ?_
        rw [ec, s2.1]
        refine wq_b 131 128 d282_125 rfl (by decide) rfl (fun c125 => ?_) (fun c125 => ?_)
        · -- pc 131
          have v0 : v2.2.1 = 0 := hp_inj (b := 0) (by omega) (by decide) c125
          have tv : rv_t v2 = v2.2.2.1 := by unfold rv_t; rw [if_neg (by rw [v0]; decide)]
          refine wq_l 132 d282_131 rfl rfl rfl rfl ?_
          refine wq_gr (ci := 10) (j := 23) (q := 56) 135 d282_132 rfl rfl rfl rfl ?_
          refine wq_l 136 d282_135 rfl rfl rfl rfl ?_
          refine wq_l 137 d282_136 rfl rfl rfl rfl ?_
          refine wq_gr (ci := 10) (j := 44) (q := 71) 140 d282_137 rfl rfl rfl rfl ?_
          refine wq_l 142 d282_140 rfl rfl rfl rfl ?_
          refine wq_al 143 d282_142 rfl rfl rfl (vp_in_iff.mpr (by rw [ei]; omega)) ?_
          rw [ec, s2.2.1, tv]
          refine wq_as 144 d282_143 rfl rfl rfl (bi) ?_
          have h144 := rr_ty h i0 v2.2.2.1
          refine wq_l 145 d282_144 rfl rfl rfl rfl ?_
          refine wq_gr (ci := 10) (j := 24) (q := 57) 148 d282_145 rfl rfl rfl rfl ?_
          refine wq_l 149 d282_148 rfl rfl rfl rfl ?_
          refine wq_l 150 d282_149 rfl rfl rfl rfl ?_
          refine wq_gr (ci := 10) (j := 47) (q := 74) 153 d282_150 rfl rfl rfl rfl ?_
          refine wq_l 155 d282_153 rfl rfl rfl rfl ?_
          refine wq_al 156 d282_155 rfl rfl rfl (vp_in_iff.mpr (by rw [ei]; omega)) ?_
          rw [pm_rne (by decide), ec, s2.2.2.2.2]
          refine wq_as 157 d282_156 rfl rfl rfl (bi) ?_
          have h157 := rr_ce h144 i0 (nI v2.2.2.2.2.2)
          refine wq_k 158 0 d282_157 (by decide) rfl ?_
          refine wq_ri d282_158 (rfl) ?_
          exact rr_q0 hQ h157 (rl_sr0 e2 v0)
        · -- pc 128
          refine wq_k 130 21 d282_128 (by decide) rfl ?_
          refine wq_ri d282_130 (rfl) ?_
          exact rr_q1 (k := 21) hQ (rr_Fi h) (rl_sr1 e2 (fun z => c125 (by rw [z]; rfl))) (by decide)
