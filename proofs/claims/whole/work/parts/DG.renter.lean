theorem d266_0 : decode prog_14_method_84_code 0 = .ok (.aload_n 0, 1) := by decide +kernel
theorem d266_1 : decode prog_14_method_84_code 1 = .ok (.getfield 542, 3) := by decide +kernel
theorem d266_4 : decode prog_14_method_84_code 4 = .ok (.ifCond .le 14, 3) := by decide +kernel
theorem d266_7 : decode prog_14_method_84_code 7 = .ok (.aload_n 0, 1) := by decide +kernel
theorem d266_8 : decode prog_14_method_84_code 8 = .ok (.invokevirtual 555, 3) := by decide +kernel
theorem d266_11 : decode prog_14_method_84_code 11 = .ok (.iconst 3, 1) := by decide +kernel
theorem d266_12 : decode prog_14_method_84_code 12 = .ok (.if_icmp .ne 6, 3) := by decide +kernel
theorem d266_15 : decode prog_14_method_84_code 15 = .ok (.bipush 10, 2) := by decide +kernel
theorem d266_17 : decode prog_14_method_84_code 17 = .ok (.ireturn, 1) := by decide +kernel
theorem d266_18 : decode prog_14_method_84_code 18 = .ok (.aload_n 0, 1) := by decide +kernel
theorem d266_19 : decode prog_14_method_84_code 19 = .ok (.getfield 35, 3) := by decide +kernel
theorem d266_22 : decode prog_14_method_84_code 22 = .ok (.iload_n 1, 1) := by decide +kernel
theorem d266_23 : decode prog_14_method_84_code 23 = .ok (.iaload, 1) := by decide +kernel
theorem d266_24 : decode prog_14_method_84_code 24 = .ok (.istore_n 2, 1) := by decide +kernel
theorem d266_25 : decode prog_14_method_84_code 25 = .ok (.aload_n 0, 1) := by decide +kernel
theorem d266_26 : decode prog_14_method_84_code 26 = .ok (.getfield 22, 3) := by decide +kernel
theorem d266_29 : decode prog_14_method_84_code 29 = .ok (.iload_n 2, 1) := by decide +kernel
theorem d266_30 : decode prog_14_method_84_code 30 = .ok (.laload, 1) := by decide +kernel
theorem d266_31 : decode prog_14_method_84_code 31 = .ok (.invokestatic 558, 3) := by decide +kernel
theorem d266_34 : decode prog_14_method_84_code 34 = .ok (.ifCond .ge 27, 3) := by decide +kernel
theorem d266_37 : decode prog_14_method_84_code 37 = .ok (.aload_n 0, 1) := by decide +kernel
theorem d266_38 : decode prog_14_method_84_code 38 = .ok (.getfield 22, 3) := by decide +kernel
theorem d266_41 : decode prog_14_method_84_code 41 = .ok (.iload_n 2, 1) := by decide +kernel
theorem d266_42 : decode prog_14_method_84_code 42 = .ok (.laload, 1) := by decide +kernel
theorem d266_43 : decode prog_14_method_84_code 43 = .ok (.invokestatic 562, 3) := by decide +kernel
theorem d266_46 : decode prog_14_method_84_code 46 = .ok (.ifCond .ge 15, 3) := by decide +kernel
theorem d266_49 : decode prog_14_method_84_code 49 = .ok (.aload_n 0, 1) := by decide +kernel
theorem d266_50 : decode prog_14_method_84_code 50 = .ok (.iload_n 2, 1) := by decide +kernel
theorem d266_51 : decode prog_14_method_84_code 51 = .ok (.aload_n 0, 1) := by decide +kernel
theorem d266_52 : decode prog_14_method_84_code 52 = .ok (.getfield 542, 3) := by decide +kernel
theorem d266_55 : decode prog_14_method_84_code 55 = .ok (.invokevirtual 565, 3) := by decide +kernel
theorem d266_58 : decode prog_14_method_84_code 58 = .ok (.ifCond .lt 6, 3) := by decide +kernel
theorem d266_61 : decode prog_14_method_84_code 61 = .ok (.bipush 11, 2) := by decide +kernel
theorem d266_63 : decode prog_14_method_84_code 63 = .ok (.ireturn, 1) := by decide +kernel
theorem d266_64 : decode prog_14_method_84_code 64 = .ok (.aload_n 0, 1) := by decide +kernel
theorem d266_65 : decode prog_14_method_84_code 65 = .ok (.getfield 74, 3) := by decide +kernel
theorem d266_68 : decode prog_14_method_84_code 68 = .ok (.aload_n 0, 1) := by decide +kernel
theorem d266_69 : decode prog_14_method_84_code 69 = .ok (.getfield 542, 3) := by decide +kernel
theorem d266_72 : decode prog_14_method_84_code 72 = .ok (.iload_n 1, 1) := by decide +kernel
theorem d266_73 : decode prog_14_method_84_code 73 = .ok (.iastore, 1) := by decide +kernel
theorem d266_74 : decode prog_14_method_84_code 74 = .ok (.aload_n 0, 1) := by decide +kernel
theorem d266_75 : decode prog_14_method_84_code 75 = .ok (.getfield 77, 3) := by decide +kernel
theorem d266_78 : decode prog_14_method_84_code 78 = .ok (.aload_n 0, 1) := by decide +kernel
theorem d266_79 : decode prog_14_method_84_code 79 = .ok (.getfield 542, 3) := by decide +kernel
theorem d266_82 : decode prog_14_method_84_code 82 = .ok (.aload_n 0, 1) := by decide +kernel
theorem d266_83 : decode prog_14_method_84_code 83 = .ok (.getfield 552, 3) := by decide +kernel
theorem d266_86 : decode prog_14_method_84_code 86 = .ok (.iastore, 1) := by decide +kernel
theorem d266_87 : decode prog_14_method_84_code 87 = .ok (.aload_n 0, 1) := by decide +kernel
theorem d266_88 : decode prog_14_method_84_code 88 = .ok (.getfield 80, 3) := by decide +kernel
theorem d266_91 : decode prog_14_method_84_code 91 = .ok (.aload_n 0, 1) := by decide +kernel
theorem d266_92 : decode prog_14_method_84_code 92 = .ok (.getfield 542, 3) := by decide +kernel
theorem d266_95 : decode prog_14_method_84_code 95 = .ok (.aload_n 0, 1) := by decide +kernel
theorem d266_96 : decode prog_14_method_84_code 96 = .ok (.getfield 552, 3) := by decide +kernel
theorem d266_99 : decode prog_14_method_84_code 99 = .ok (.iastore, 1) := by decide +kernel
theorem d266_100 : decode prog_14_method_84_code 100 = .ok (.aload_n 0, 1) := by decide +kernel
theorem d266_101 : decode prog_14_method_84_code 101 = .ok (.dup, 1) := by decide +kernel
theorem d266_102 : decode prog_14_method_84_code 102 = .ok (.getfield 542, 3) := by decide +kernel
theorem d266_105 : decode prog_14_method_84_code 105 = .ok (.iconst 1, 1) := by decide +kernel
theorem d266_106 : decode prog_14_method_84_code 106 = .ok (.iadd, 1) := by decide +kernel
theorem d266_107 : decode prog_14_method_84_code 107 = .ok (.putfield 542, 3) := by decide +kernel
theorem d266_110 : decode prog_14_method_84_code 110 = .ok (.aload_n 0, 1) := by decide +kernel
theorem d266_111 : decode prog_14_method_84_code 111 = .ok (.aload_n 0, 1) := by decide +kernel
theorem d266_112 : decode prog_14_method_84_code 112 = .ok (.getfield 29, 3) := by decide +kernel
theorem d266_115 : decode prog_14_method_84_code 115 = .ok (.iload_n 1, 1) := by decide +kernel
theorem d266_116 : decode prog_14_method_84_code 116 = .ok (.iaload, 1) := by decide +kernel
theorem d266_117 : decode prog_14_method_84_code 117 = .ok (.iconst 3, 1) := by decide +kernel
theorem d266_118 : decode prog_14_method_84_code 118 = .ok (.if_icmp .ne 9, 3) := by decide +kernel
theorem d266_121 : decode prog_14_method_84_code 121 = .ok (.sipush 960, 3) := by decide +kernel
theorem d266_124 : decode prog_14_method_84_code 124 = .ok (.goto 4, 3) := by decide +kernel
theorem d266_127 : decode prog_14_method_84_code 127 = .ok (.iconst 0, 1) := by decide +kernel
theorem d266_128 : decode prog_14_method_84_code 128 = .ok (.putfield 568, 3) := by decide +kernel
theorem d266_131 : decode prog_14_method_84_code 131 = .ok (.aload_n 0, 1) := by decide +kernel
theorem d266_132 : decode prog_14_method_84_code 132 = .ok (.getfield 29, 3) := by decide +kernel
theorem d266_135 : decode prog_14_method_84_code 135 = .ok (.iload_n 1, 1) := by decide +kernel
theorem d266_136 : decode prog_14_method_84_code 136 = .ok (.iaload, 1) := by decide +kernel
theorem d266_137 : decode prog_14_method_84_code 137 = .ok (.iconst 1, 1) := by decide +kernel
theorem d266_138 : decode prog_14_method_84_code 138 = .ok (.if_icmp .ne 38, 3) := by decide +kernel
theorem d266_141 : decode prog_14_method_84_code 141 = .ok (.aload_n 0, 1) := by decide +kernel
theorem d266_142 : decode prog_14_method_84_code 142 = .ok (.iload_n 2, 1) := by decide +kernel
theorem d266_143 : decode prog_14_method_84_code 143 = .ok (.iconst 0, 1) := by decide +kernel
theorem d266_144 : decode prog_14_method_84_code 144 = .ok (.aload_n 0, 1) := by decide +kernel
theorem d266_145 : decode prog_14_method_84_code 145 = .ok (.getfield 35, 3) := by decide +kernel
theorem d266_148 : decode prog_14_method_84_code 148 = .ok (.aload_n 0, 1) := by decide +kernel
theorem d266_149 : decode prog_14_method_84_code 149 = .ok (.getfield 38, 3) := by decide +kernel
theorem d266_152 : decode prog_14_method_84_code 152 = .ok (.iload_n 1, 1) := by decide +kernel
theorem d266_153 : decode prog_14_method_84_code 153 = .ok (.iaload, 1) := by decide +kernel
theorem d266_154 : decode prog_14_method_84_code 154 = .ok (.iaload, 1) := by decide +kernel
theorem d266_155 : decode prog_14_method_84_code 155 = .ok (.iconst 0, 1) := by decide +kernel
theorem d266_156 : decode prog_14_method_84_code 156 = .ok (.invokevirtual 571, 3) := by decide +kernel
theorem d266_159 : decode prog_14_method_84_code 159 = .ok (.aload_n 0, 1) := by decide +kernel
theorem d266_160 : decode prog_14_method_84_code 160 = .ok (.getfield 104, 3) := by decide +kernel
theorem d266_163 : decode prog_14_method_84_code 163 = .ok (.aload_n 0, 1) := by decide +kernel
theorem d266_164 : decode prog_14_method_84_code 164 = .ok (.getfield 552, 3) := by decide +kernel
theorem d266_167 : decode prog_14_method_84_code 167 = .ok (.iconst 1, 1) := by decide +kernel
theorem d266_168 : decode prog_14_method_84_code 168 = .ok (.isub, 1) := by decide +kernel
theorem d266_169 : decode prog_14_method_84_code 169 = .ok (.iconst 0, 1) := by decide +kernel
theorem d266_170 : decode prog_14_method_84_code 170 = .ok (.iastore, 1) := by decide +kernel
theorem d266_171 : decode prog_14_method_84_code 171 = .ok (.aload_n 0, 1) := by decide +kernel
theorem d266_172 : decode prog_14_method_84_code 172 = .ok (.iconst 1, 1) := by decide +kernel
theorem d266_173 : decode prog_14_method_84_code 173 = .ok (.putfield 568, 3) := by decide +kernel
theorem d266_176 : decode prog_14_method_84_code 176 = .ok (.iconst 0, 1) := by decide +kernel
theorem d266_177 : decode prog_14_method_84_code 177 = .ok (.ireturn, 1) := by decide +kernel
theorem m266 : pm_m 266 = some (⟨"TypeRulesModel", "enterBlock", "(I)I"⟩, prog_14_method_84_code, 3, (some FieldType.int), 10, 1, 11) := rfl
/-! A BLOCK begins, in the reference -/
theorem rr_push {l : List pg_N} {a : Nat → Nat} {R : Int32 → Int32 → Prop} {σ0 σ σ' : pm_S} {u0 u k i c : Nat} {x : Int32} {A : rl_A} (h : rr_I l a R σ0 σ false u0 A) (i0 : i < l.length) (hk : rl_k l i = k) (hv : rl_v l i = x) (hB : A.1.length < 409) (hF : rr_F σ0 σ') (eD : ∀ k, 56 ≤ k → k ≤ 58 → σ'.2.2 k = σ.2.2 k) (e64 : σ'.2.2 64 = upd (σ.2.2 64) A.1.length (nI (a i))) (e65 : σ'.2.2 65 = upd (σ.2.2 65) A.1.length (nI (rv_L A.1).length)) (e66 : σ'.2.2 66 = upd (σ.2.2 66) A.1.length (nI (rv_L A.1).length)) (e67 : σ'.2.2 67 = σ.2.2 67) (e35 : σ'.1 10 35 = nI (A.1.length + 1)) (e41 : σ'.1 10 41 = σ.1 10 41) (ev : ∀ k, 69 ≤ k → k ≤ 74 → σ'.2.2 k = σ.2.2 k) (e48 : σ'.1 10 48 = nI u) : rr_I l a R σ0 σ' true u ((k, x, i, c, []) :: A.1, A.2) := by
  obtain ⟨h0, h1, h2, hD, hb, hv', h6⟩ := h
  have eL : rv_L ((k, x, i, c, []) :: A.1) = rv_L A.1 := by
    show rv_L A.1 ++ [].reverse = _
    rw [List.reverse_nil, List.append_nil]
  refine ⟨h0, h1, hF, fun j hj => ?_, ?_, ?_, fun _ => e48⟩
  · obtain ⟨d1, d2, d3⟩ := hD j hj
    rw [eD 56 (by omega) (by omega), eD 57 (by omega) (by omega), eD 58 (by omega) (by omega)]
    exact ⟨d1, fun _ => d2 (fun z => absurd z.1 (by decide)), fun _ => d3 (fun z => absurd z.1 (by decide))⟩
  · obtain ⟨b1, b2, b3⟩ := hb
    refine ⟨hB, e35, fun b z hz => ?_⟩
    rw [rl_blkc] at hz
    by_cases q : b = A.1.length
    · rw [if_pos q] at hz
      cases hz
      refine ⟨i0, hk, hv, ?_⟩
      have f0 : rv_fr ((k, x, i, c, []) :: A.1) b = (rv_L A.1).length := by
        unfold rv_fr
        rw [List.length_cons, q, show A.1.length + 1 - A.1.length = 1 by omega]; rfl
      unfold rb_at
      rw [e64, e65, e66, f0, upd_if, upd_if, upd_if, if_pos q, if_pos q, if_pos q]
      refine ⟨rfl, rfl, rfl, fun z => ?_⟩
      rcases z with z | z
      · cases z
      · rw [List.length_cons] at z; omega
    · rw [if_neg q] at hz
      have hl := rl_blkl hz
      obtain ⟨g1, g2, g3, g4⟩ := b3 b z hz
      refine ⟨g1, g2, g3, ?_⟩
      have fE : rv_fr ((k, x, i, c, []) :: A.1) b = rv_fr A.1 b := by
        unfold rv_fr
        rw [List.length_cons, show A.1.length + 1 - b = (A.1.length - b) + 1 by omega, List.drop_succ_cons]
      unfold rb_at at g4 ⊢
      rw [e64, e65, e66, e67, fE, upd_if, upd_if, upd_if, if_neg q, if_neg q, if_neg q]
      exact ⟨g4.1, g4.2.1, g4.2.2.1, fun _ => g4.2.2.2 (Or.inl rfl)⟩
  · show rv_I R (rv_L ((k, x, i, c, []) :: A.1)) σ'
    rw [eL]
    exact rv_x hv' (fun q q1 q2 => ev q q1 q2) e41
theorem re266t {d : Nat} {l : List pg_N} {a : Nat → Nat} {R : Int32 → Int32 → Prop} {σ0 σ : pm_S} {A : rl_A} {Q : Option Value → pm_S → Prop} {u0 i : Nat} {r : Int32} (h : rr_I l a R σ0 σ false u0 A) (hB : A.1.length < 409) (i0 : i < l.length) (hk : rl_k l i = 2 ∨ rl_k l i = 3) (hQ : ∀ σ', rr_F σ0 σ' → rr_I l a R σ0 σ' true (if rl_k l i = 3 then 960 else 0) ((rl_k l i, rl_v l i, i, if rl_k l i = 3 then 960 else 0, []) :: A.1, A.2) → Q (some (.int 0)) σ') : pm_WP pm_Y0 (pm_call pm_Y0 (d + 2)) 10 prog_14_method_84_code (some FieldType.int) Q 64 [.ref 10, .int (nI (a i)), .int r] [] σ := by
  have e35 := h.2.2.2.2.1.2.1
  have e41 := h.2.2.2.2.2.1.2.1
  have eb := nI_toInt (n := A.1.length) (by omega)
  have ec := nI_clamp (n := A.1.length) (by omega)
  have bi := rt_b (rr_T h) i0
  have kk := rt_k (rr_T h) i0
  refine wq_l 65 d266_64 rfl rfl rfl rfl ?_
  refine wq_gr (ci := 10) (j := 36) (q := 64) 68 d266_65 rfl rfl rfl rfl ?_
  refine wq_l 69 d266_68 rfl rfl rfl rfl ?_
  refine wq_gf (ci := 10) (j := 35) (f := 0) (v := .int (nI A.1.length)) 72 d266_69 rfl rfl rfl (congrArg Value.int (e35)) rfl ?_
  refine wq_l 73 d266_72 rfl rfl rfl rfl ?_
  refine wq_as 74 d266_73 rfl rfl rfl (vp_in_iff.mpr (by rw [eb]; omega)) ?_
  refine wq_l 75 d266_74 rfl rfl rfl rfl ?_
  refine wq_gr (ci := 10) (j := 37) (q := 65) 78 d266_75 rfl rfl rfl rfl ?_
  refine wq_l 79 d266_78 rfl rfl rfl rfl ?_
  refine wq_gf (ci := 10) (j := 35) (f := 0) (v := .int (nI A.1.length)) 82 d266_79 rfl rfl rfl (congrArg Value.int (e35)) rfl ?_
  refine wq_l 83 d266_82 rfl rfl rfl rfl ?_
  refine wq_gf (ci := 10) (j := 41) (f := 0) (v := .int (nI (rv_L A.1).length)) 86 d266_83 rfl rfl rfl (congrArg Value.int (e41)) rfl ?_
  refine wq_as 87 d266_86 rfl rfl rfl (vp_in_iff.mpr (by rw [eb]; omega)) ?_
  refine wq_l 88 d266_87 rfl rfl rfl rfl ?_
  refine wq_gr (ci := 10) (j := 38) (q := 66) 91 d266_88 rfl rfl rfl rfl ?_
  refine wq_l 92 d266_91 rfl rfl rfl rfl ?_
  refine wq_gf (ci := 10) (j := 35) (f := 0) (v := .int (nI A.1.length)) 95 d266_92 rfl rfl rfl (congrArg Value.int (e35)) rfl ?_
  refine wq_l 96 d266_95 rfl rfl rfl rfl ?_
  refine wq_gf (ci := 10) (j := 41) (f := 0) (v := .int (nI (rv_L A.1).length)) 99 d266_96 rfl rfl rfl (congrArg Value.int (e41)) rfl ?_
  refine wq_as 100 d266_99 rfl rfl rfl (vp_in_iff.mpr (by rw [eb]; omega)) ?_
  refine wq_l 101 d266_100 rfl rfl rfl rfl ?_
  refine wq_a 102 d266_101 rfl rfl ?_
  refine wq_gf (ci := 10) (j := 35) (f := 0) (v := .int (nI A.1.length)) 105 d266_102 rfl rfl rfl (congrArg Value.int (e35)) rfl ?_
  refine wq_k 106 1 d266_105 (by decide) rfl ?_
  refine wq_a 107 d266_106 rfl rfl ?_
  rw [nI_1]
  refine wq_pf (ci := 10) (j := 35) 110 d266_107 rfl rfl rfl ⟨rfl, rfl⟩ rfl ?_
  refine wq_l 111 d266_110 rfl rfl rfl rfl ?_
  refine wq_l 112 d266_111 rfl rfl rfl rfl ?_
  refine wq_gr (ci := 10) (j := 16) (q := 49) 115 d266_112 rfl rfl rfl rfl ?_
  refine wq_l 116 d266_115 rfl rfl rfl rfl ?_
  refine wq_al 117 d266_116 rfl rfl rfl (bi) ?_
  refine wq_k 118 3 d266_117 (by decide) rfl ?_
  refine wq_b 127 121 d266_118 rfl (by decide) rfl (fun c118 => ?_) (fun c118 => ?_)
  · -- pc 127
    refine wq_k 128 0 d266_127 (by decide) rfl ?_
    refine wq_pf (ci := 10) (j := 48) 131 d266_128 rfl rfl rfl ⟨rfl, rfl⟩ rfl ?_
    refine wq_l 132 d266_131 rfl rfl rfl rfl ?_
    refine wq_gr (ci := 10) (j := 16) (q := 49) 135 d266_132 rfl rfl rfl rfl ?_
    refine wq_l 136 d266_135 rfl rfl rfl rfl ?_
    refine wq_al 137 d266_136 rfl rfl rfl (bi) ?_
    refine wq_k 138 1 d266_137 (by decide) rfl ?_
    refine wq_b 176 141 d266_138 rfl (by decide) rfl (fun c138 => ?_) (fun c138 => absurd (fun z => by have z : σ.2.2 49 (nI (a i)).toNatClampNeg = 1 := z; rw [kk] at z; have := hp_inj (b := 1) (by omega) (by decide) z; omega) c138)
    refine wq_k 177 0 d266_176 (by decide) rfl ?_
    refine wq_ri d266_177 (rfl) ?_
    have c118 : ¬ σ.2.2 49 (nI (a i)).toNatClampNeg = 3 := c118
    rw [kk] at c118
    have k3 : ¬ rl_k l i = 3 := fun z => c118 (by rw [z]; rfl)
    rw [ec]
    have hF := rr_pi (b := 48) (x := 0) (rr_pi35 (c := A.1.length + 1) (rr_pr (k := 66) (f := upd (σ.2.2 66) A.1.length (nI (rv_L A.1).length)) (rr_pr (k := 65) (f := upd (σ.2.2 65) A.1.length (nI (rv_L A.1).length)) (rr_pr (k := 64) (f := upd (σ.2.2 64) A.1.length (nI (a i))) (rr_Fi h) (by decide)) (by decide)) (by decide)) (by omega)) (by decide)
    refine hQ _ hF (rr_push h i0 rfl rfl hB hF (fun k k1 k2 => ?_) ?_ ?_ ?_ ?_ rfl rfl (fun k k1 k2 => ?_) ?_)
    · show (pm_pr _ 66 _).2.2 k = _
      rw [pm_rne (by omega), pm_rne (by omega), pm_rne (by omega)]
    · rfl
    · rfl
    · rfl
    · rfl
    · show (pm_pr _ 66 _).2.2 k = _
      rw [pm_rne (by omega), pm_rne (by omega), pm_rne (by omega)]
    · rw [if_neg k3]; rfl
  · -- pc 121
    refine wq_k 124 960 d266_121 (by decide) rfl ?_
    refine wq_g 128 d266_124 (by decide) ?_
    refine wq_pf (ci := 10) (j := 48) 131 d266_128 rfl rfl rfl ⟨rfl, rfl⟩ rfl ?_
    refine wq_l 132 d266_131 rfl rfl rfl rfl ?_
    refine wq_gr (ci := 10) (j := 16) (q := 49) 135 d266_132 rfl rfl rfl rfl ?_
    refine wq_l 136 d266_135 rfl rfl rfl rfl ?_
    refine wq_al 137 d266_136 rfl rfl rfl (bi) ?_
    refine wq_k 138 1 d266_137 (by decide) rfl ?_
    refine wq_b 176 141 d266_138 rfl (by decide) rfl (fun c138 => ?_) (fun c138 => absurd (fun z => by have z : σ.2.2 49 (nI (a i)).toNatClampNeg = 1 := z; rw [kk] at z; have := hp_inj (b := 1) (by omega) (by decide) z; omega) c138)
    refine wq_k 177 0 d266_176 (by decide) rfl ?_
    refine wq_ri d266_177 (rfl) ?_
    have c118 : σ.2.2 49 (nI (a i)).toNatClampNeg = 3 := Classical.not_not.mp c118
    rw [kk] at c118
    have k3 : rl_k l i = 3 := hp_inj (b := 3) (by omega) (by decide) c118
    rw [ec]
    have hF := rr_pi (b := 48) (x := 960) (rr_pi35 (c := A.1.length + 1) (rr_pr (k := 66) (f := upd (σ.2.2 66) A.1.length (nI (rv_L A.1).length)) (rr_pr (k := 65) (f := upd (σ.2.2 65) A.1.length (nI (rv_L A.1).length)) (rr_pr (k := 64) (f := upd (σ.2.2 64) A.1.length (nI (a i))) (rr_Fi h) (by decide)) (by decide)) (by decide)) (by omega)) (by decide)
    refine hQ _ hF (rr_push h i0 rfl rfl hB hF (fun k k1 k2 => ?_) ?_ ?_ ?_ ?_ rfl rfl (fun k k1 k2 => ?_) ?_)
    · show (pm_pr _ 66 _).2.2 k = _
      rw [pm_rne (by omega), pm_rne (by omega), pm_rne (by omega)]
    · rfl
    · rfl
    · rfl
    · rfl
    · show (pm_pr _ 66 _).2.2 k = _
      rw [pm_rne (by omega), pm_rne (by omega), pm_rne (by omega)]
    · rw [if_pos k3]; rfl
theorem rr_u {l : List pg_N} {a : Nat → Nat} {R : Int32 → Int32 → Prop} {σ0 σ : pm_S} {fl : Bool} {u : Nat} {A : rl_A} (h : rr_I l a R σ0 σ fl u A) (u' : Nat) : rr_I l a R σ0 (pm_pi σ 10 48 (nI u')) fl u' A := ⟨h.1, h.2.1, rr_pi h.2.2.1 (by decide), h.2.2.2.1, rb_x h.2.2.2.2.1 (fun _ _ _ => rfl) rfl, rv_x h.2.2.2.2.2.1 (fun _ _ _ => rfl) rfl, fun _ => rfl⟩
theorem re266f {d : Nat} {l : List pg_N} {a : Nat → Nat} {R : Int32 → Int32 → Prop} {σ0 σ : pm_S} {A : rl_A} {Q : Option Value → pm_S → Prop} {NN u0 i : Nat} {r : Int32} (hG : lg_G l NN) (h : rr_I l a R σ0 σ false u0 A) (hB : A.1.length < 409) (hn : (rv_L A.1).length < 4096) (i0 : i + 1 < l.length) (hz : i + 1 < i + rl_z l i) (hk : rl_k l i = 1) (hk1 : rp_nk (rl_k l (i + 1)) = false) (hR : R (rl_v l i) r) (hQ : ∀ σ', rr_F σ0 σ' → rr_I l a R σ0 σ' true 1 ((rl_k l i, rl_v l i, i, 1, [(rl_v l i, 0, rl_v l (i + 1), 0, -1, 0)]) :: A.1, A.2) → Q (some (.int 0)) σ') : pm_WP pm_Y0 (pm_call pm_Y0 (d + 2)) 10 prog_14_method_84_code (some FieldType.int) Q 64 [.ref 10, .int (nI (a i)), .int r] [] σ := by
  have i0' : i < l.length := by omega
  have e35 := h.2.2.2.2.1.2.1
  have e41 := h.2.2.2.2.2.1.2.1
  have eb := nI_toInt (n := A.1.length) (by omega)
  have ec := nI_clamp (n := A.1.length) (by omega)
  have bi := rt_b (rr_T h) i0'
  have kk := rt_k (rr_T h) i0'
  have ef := (rt_f (rr_T h) hG i0').trans (if_pos hz)
  have vv := rt_v (rr_T h) i0 hk1
  have eg := nI_toInt (n := (rv_L A.1).length) (by omega)
  have egc := nI_clamp (n := (rv_L A.1).length) (by omega)
  refine wq_l 65 d266_64 rfl rfl rfl rfl ?_
  refine wq_gr (ci := 10) (j := 36) (q := 64) 68 d266_65 rfl rfl rfl rfl ?_
  refine wq_l 69 d266_68 rfl rfl rfl rfl ?_
  refine wq_gf (ci := 10) (j := 35) (f := 0) (v := .int (nI A.1.length)) 72 d266_69 rfl rfl rfl (congrArg Value.int (e35)) rfl ?_
  refine wq_l 73 d266_72 rfl rfl rfl rfl ?_
  refine wq_as 74 d266_73 rfl rfl rfl (vp_in_iff.mpr (by rw [eb]; omega)) ?_
  refine wq_l 75 d266_74 rfl rfl rfl rfl ?_
  refine wq_gr (ci := 10) (j := 37) (q := 65) 78 d266_75 rfl rfl rfl rfl ?_
  refine wq_l 79 d266_78 rfl rfl rfl rfl ?_
  refine wq_gf (ci := 10) (j := 35) (f := 0) (v := .int (nI A.1.length)) 82 d266_79 rfl rfl rfl (congrArg Value.int (e35)) rfl ?_
  refine wq_l 83 d266_82 rfl rfl rfl rfl ?_
  refine wq_gf (ci := 10) (j := 41) (f := 0) (v := .int (nI (rv_L A.1).length)) 86 d266_83 rfl rfl rfl (congrArg Value.int (e41)) rfl ?_
  refine wq_as 87 d266_86 rfl rfl rfl (vp_in_iff.mpr (by rw [eb]; omega)) ?_
  refine wq_l 88 d266_87 rfl rfl rfl rfl ?_
  refine wq_gr (ci := 10) (j := 38) (q := 66) 91 d266_88 rfl rfl rfl rfl ?_
  refine wq_l 92 d266_91 rfl rfl rfl rfl ?_
  refine wq_gf (ci := 10) (j := 35) (f := 0) (v := .int (nI A.1.length)) 95 d266_92 rfl rfl rfl (congrArg Value.int (e35)) rfl ?_
  refine wq_l 96 d266_95 rfl rfl rfl rfl ?_
  refine wq_gf (ci := 10) (j := 41) (f := 0) (v := .int (nI (rv_L A.1).length)) 99 d266_96 rfl rfl rfl (congrArg Value.int (e41)) rfl ?_
  refine wq_as 100 d266_99 rfl rfl rfl (vp_in_iff.mpr (by rw [eb]; omega)) ?_
  refine wq_l 101 d266_100 rfl rfl rfl rfl ?_
  refine wq_a 102 d266_101 rfl rfl ?_
  refine wq_gf (ci := 10) (j := 35) (f := 0) (v := .int (nI A.1.length)) 105 d266_102 rfl rfl rfl (congrArg Value.int (e35)) rfl ?_
  refine wq_k 106 1 d266_105 (by decide) rfl ?_
  refine wq_a 107 d266_106 rfl rfl ?_
  rw [nI_1]
  refine wq_pf (ci := 10) (j := 35) 110 d266_107 rfl rfl rfl ⟨rfl, rfl⟩ rfl ?_
  refine wq_l 111 d266_110 rfl rfl rfl rfl ?_
  refine wq_l 112 d266_111 rfl rfl rfl rfl ?_
  refine wq_gr (ci := 10) (j := 16) (q := 49) 115 d266_112 rfl rfl rfl rfl ?_
  refine wq_l 116 d266_115 rfl rfl rfl rfl ?_
  refine wq_al 117 d266_116 rfl rfl rfl (bi) ?_
  refine wq_k 118 3 d266_117 (by decide) rfl ?_
  refine wq_b 127 121 d266_118 rfl (by decide) rfl (fun c118 => ?_) (fun c118 => absurd (fun z => by have z : σ.2.2 49 (nI (a i)).toNatClampNeg = 3 := z; rw [kk, hk] at z; exact absurd z (by decide)) c118)
  refine wq_k 128 0 d266_127 (by decide) rfl ?_
  refine wq_pf (ci := 10) (j := 48) 131 d266_128 rfl rfl rfl ⟨rfl, rfl⟩ rfl ?_
  rw [ec]
  have hF := rr_pi (b := 48) (x := 0) (rr_pi35 (c := A.1.length + 1) (rr_pr (k := 66) (f := upd (σ.2.2 66) A.1.length (nI (rv_L A.1).length)) (rr_pr (k := 65) (f := upd (σ.2.2 65) A.1.length (nI (rv_L A.1).length)) (rr_pr (k := 64) (f := upd (σ.2.2 64) A.1.length (nI (a i))) (rr_Fi h) (by decide)) (by decide)) (by decide)) (by omega)) (by decide)
  have hS : rr_I l a R σ0 _ true 0 ((rl_k l i, rl_v l i, i, 1, []) :: A.1, A.2) := rr_push h i0' rfl rfl hB hF (fun k k1 k2 => by
    show (pm_pr _ 66 _).2.2 k = _
    rw [pm_rne (by omega), pm_rne (by omega), pm_rne (by omega)]) rfl rfl rfl rfl rfl rfl (fun k k1 k2 => by
    show (pm_pr _ 66 _).2.2 k = _
    rw [pm_rne (by omega), pm_rne (by omega), pm_rne (by omega)]) rfl
  have f35 : (pm_pi (pm_pi (pm_pr (pm_pr (pm_pr σ 64 (upd (σ.2.2 64) A.1.length (nI (a i)))) 65 (upd (σ.2.2 65) A.1.length (nI (rv_L A.1).length))) 66 (upd (σ.2.2 66) A.1.length (nI (rv_L A.1).length))) 10 35 (nI (A.1.length + 1))) 10 48 0).1 10 35 = nI (A.1.length + 1) := rfl
  have f41 : (pm_pi (pm_pi (pm_pr (pm_pr (pm_pr σ 64 (upd (σ.2.2 64) A.1.length (nI (a i)))) 65 (upd (σ.2.2 65) A.1.length (nI (rv_L A.1).length))) 66 (upd (σ.2.2 66) A.1.length (nI (rv_L A.1).length))) 10 35 (nI (A.1.length + 1))) 10 48 0).1 10 41 = nI (rv_L A.1).length := e41
  show pm_WP _ _ _ _ _ _ _ _ _ (pm_pi (pm_pi (pm_pr (pm_pr (pm_pr σ 64 (upd (σ.2.2 64) A.1.length (nI (a i)))) 65 (upd (σ.2.2 65) A.1.length (nI (rv_L A.1).length))) 66 (upd (σ.2.2 66) A.1.length (nI (rv_L A.1).length))) 10 35 (nI (A.1.length + 1))) 10 48 0)
  generalize (pm_pi (pm_pi (pm_pr (pm_pr (pm_pr σ 64 (upd (σ.2.2 64) A.1.length (nI (a i)))) 65 (upd (σ.2.2 65) A.1.length (nI (rv_L A.1).length))) 66 (upd (σ.2.2 66) A.1.length (nI (rv_L A.1).length))) 10 35 (nI (A.1.length + 1))) 10 48 0) = τ at hS hF f35 f41 ⊢
  have T := rr_T hS
  have eL : rv_L ((rl_k l i, rl_v l i, i, 1, []) :: A.1) = rv_L A.1 := by
    show rv_L A.1 ++ [].reverse = _
    rw [List.reverse_nil, List.append_nil]
  refine wq_l 132 d266_131 rfl rfl rfl rfl ?_
  refine wq_gr (ci := 10) (j := 16) (q := 49) 135 d266_132 rfl rfl rfl rfl ?_
  refine wq_l 136 d266_135 rfl rfl rfl rfl ?_
  refine wq_al 137 d266_136 rfl rfl rfl (bi) ?_
  rw [rt_k T i0', hk]
  refine wq_k 138 1 d266_137 (by decide) rfl ?_
  refine wq_b 176 141 d266_138 rfl (by decide) rfl (fun c138 => absurd c138 (by decide)) (fun c138 => ?_)
  refine wq_l 142 d266_141 rfl rfl rfl rfl ?_
  refine wq_l 143 d266_142 rfl rfl rfl rfl ?_
  refine wq_k 144 0 d266_143 (by decide) rfl ?_
  refine wq_l 145 d266_144 rfl rfl rfl rfl ?_
  refine wq_gr (ci := 10) (j := 18) (q := 51) 148 d266_145 rfl rfl rfl rfl ?_
  refine wq_l 149 d266_148 rfl rfl rfl rfl ?_
  refine wq_gr (ci := 10) (j := 19) (q := 52) 152 d266_149 rfl rfl rfl rfl ?_
  refine wq_l 153 d266_152 rfl rfl rfl rfl ?_
  refine wq_al 154 d266_153 rfl rfl rfl (bi) ?_
  rw [(rt_f T hG i0').trans (if_pos hz)]
  refine wq_al 155 d266_154 rfl rfl rfl (rt_b T i0) ?_
  rw [rt_v T i0 hk1]
  refine wq_k 156 0 d266_155 (by decide) rfl ?_
  refine wq_v 159 [_, _, _, _] d266_156 rfl rfl m271 rfl rfl (Nat.le_of_ble_eq_true rfl) rfl (re271 (G := (rv_L A.1).length) (B := A.1.length + 1) f41 f35 hn (by omega) (by omega) (fun σ1 X => ?_))
  have hF1 := ra_F hF X
  obtain ⟨x1, x2, x3, x4, x5, x6, x7, x8, x9, x10, x11, x12⟩ := X
  refine wq_l 160 d266_159 rfl rfl rfl rfl ?_
  refine wq_gr (ci := 10) (j := 47) (q := 74) 163 d266_160 rfl rfl rfl rfl ?_
  refine wq_l 164 d266_163 rfl rfl rfl rfl ?_
  refine wq_gf (ci := 10) (j := 41) (f := 0) (v := .int (nI ((rv_L A.1).length + 1))) 167 d266_164 rfl rfl rfl (congrArg Value.int (x2)) rfl ?_
  refine wq_k 168 1 d266_167 (by decide) rfl ?_
  refine wq_a 169 d266_168 rfl rfl ?_
  rw [show nI ((rv_L A.1).length + 1) - 1 = nI (rv_L A.1).length from nI_sb _ 1]
  refine wq_k 170 0 d266_169 (by decide) rfl ?_
  refine wq_as 171 d266_170 rfl rfl rfl (vp_in_iff.mpr (by rw [eg]; omega)) ?_
  refine wq_l 172 d266_171 rfl rfl rfl rfl ?_
  refine wq_k 173 1 d266_172 (by decide) rfl ?_
  refine wq_pf (ci := 10) (j := 48) 176 d266_173 rfl rfl rfl ⟨rfl, rfl⟩ rfl ?_
  refine wq_k 177 0 d266_176 (by decide) rfl ?_
  refine wq_ri d266_177 (rfl) ?_
  rw [egc]
  have hF2 := rr_pr (k := 74) (f := upd (σ1.2.2 74) (rv_L A.1).length 0) hF1 (by decide)
  have hA := rr_addv (v := (rl_v l i, 0, rl_v l (i + 1), 0, -1, 0)) hS hF2 (fun k k1 k2 => by rw [pm_rne (by omega)]; exact x4 k (by omega) (by omega)) (by rw [pm_rne (by decide)]; exact x4 64 (by omega) (by omega)) (by rw [pm_rne (by decide)]; exact x4 65 (by omega) (by omega)) (by rw [pm_rne (by decide)]; exact x4 67 (by omega) (by omega)) (by rw [pm_rne (by decide), eL]; exact x5) (by rw [eL]; exact x2) ((x1 10 35).resolve_left (by omega)) ((x1 10 48).resolve_left (by omega)) (fun k j k1 k2 k3 => by
    rw [eL] at k3
    by_cases q : k = 74
    · subst q; rw [pm_req, upd_if, if_neg k3]; exact x6 74 j (by omega) (by omega) k3
    · rw [pm_rne q]; exact x6 k j k1 k2 k3) (by rw [eL]; exact hn) (by
    rw [eL]
    refine ⟨?_, fun _ => ⟨?_, ?_, ?_, ?_, ?_⟩, fun z => absurd (show (0 : Nat) = 3 from z) (by decide)⟩
    · rw [pm_rne (by decide), x7]; exact hR
    · rw [pm_rne (by decide), x8]; rfl
    · rw [pm_rne (by decide), x9]; rfl
    · rw [pm_rne (by decide), x10]; rfl
    · rw [pm_rne (by decide), x11]
    · rw [pm_req, upd_if, if_pos rfl]; rfl)
  exact hQ _ (rr_pi hF2 (by decide)) (rr_u hA 1)
