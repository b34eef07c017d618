theorem d273_0 : decode prog_14_method_115_code 0 = .ok (.aload_n 0, 1) := by decide +kernel
theorem d273_1 : decode prog_14_method_115_code 1 = .ok (.getfield 542, 3) := by decide +kernel
theorem d273_4 : decode prog_14_method_115_code 4 = .ok (.ifCond .eq 11, 3) := by decide +kernel
theorem d273_7 : decode prog_14_method_115_code 7 = .ok (.aload_n 0, 1) := by decide +kernel
theorem d273_8 : decode prog_14_method_115_code 8 = .ok (.invokevirtual 555, 3) := by decide +kernel
theorem d273_11 : decode prog_14_method_115_code 11 = .ok (.iconst 3, 1) := by decide +kernel
theorem d273_12 : decode prog_14_method_115_code 12 = .ok (.if_icmp .eq 6, 3) := by decide +kernel
theorem d273_15 : decode prog_14_method_115_code 15 = .ok (.bipush 10, 2) := by decide +kernel
theorem d273_17 : decode prog_14_method_115_code 17 = .ok (.ireturn, 1) := by decide +kernel
theorem d273_18 : decode prog_14_method_115_code 18 = .ok (.aload_n 0, 1) := by decide +kernel
theorem d273_19 : decode prog_14_method_115_code 19 = .ok (.aload_n 0, 1) := by decide +kernel
theorem d273_20 : decode prog_14_method_115_code 20 = .ok (.getfield 83, 3) := by decide +kernel
theorem d273_23 : decode prog_14_method_115_code 23 = .ok (.aload_n 0, 1) := by decide +kernel
theorem d273_24 : decode prog_14_method_115_code 24 = .ok (.getfield 542, 3) := by decide +kernel
theorem d273_27 : decode prog_14_method_115_code 27 = .ok (.iconst 1, 1) := by decide +kernel
theorem d273_28 : decode prog_14_method_115_code 28 = .ok (.isub, 1) := by decide +kernel
theorem d273_29 : decode prog_14_method_115_code 29 = .ok (.iaload, 1) := by decide +kernel
theorem d273_30 : decode prog_14_method_115_code 30 = .ok (.putfield 635, 3) := by decide +kernel
theorem d273_33 : decode prog_14_method_115_code 33 = .ok (.iconst 0, 1) := by decide +kernel
theorem d273_34 : decode prog_14_method_115_code 34 = .ok (.istore_n 1, 1) := by decide +kernel
theorem d273_35 : decode prog_14_method_115_code 35 = .ok (.iload_n 1, 1) := by decide +kernel
theorem d273_36 : decode prog_14_method_115_code 36 = .ok (.aload_n 0, 1) := by decide +kernel
theorem d273_37 : decode prog_14_method_115_code 37 = .ok (.getfield 542, 3) := by decide +kernel
theorem d273_40 : decode prog_14_method_115_code 40 = .ok (.if_icmp .ge 90, 3) := by decide +kernel
theorem d273_43 : decode prog_14_method_115_code 43 = .ok (.aload_n 0, 1) := by decide +kernel
theorem d273_44 : decode prog_14_method_115_code 44 = .ok (.getfield 29, 3) := by decide +kernel
theorem d273_47 : decode prog_14_method_115_code 47 = .ok (.aload_n 0, 1) := by decide +kernel
theorem d273_48 : decode prog_14_method_115_code 48 = .ok (.getfield 74, 3) := by decide +kernel
theorem d273_51 : decode prog_14_method_115_code 51 = .ok (.iload_n 1, 1) := by decide +kernel
theorem d273_52 : decode prog_14_method_115_code 52 = .ok (.iaload, 1) := by decide +kernel
theorem d273_53 : decode prog_14_method_115_code 53 = .ok (.iaload, 1) := by decide +kernel
theorem d273_54 : decode prog_14_method_115_code 54 = .ok (.iconst 1, 1) := by decide +kernel
theorem d273_55 : decode prog_14_method_115_code 55 = .ok (.if_icmp .ne 7, 3) := by decide +kernel
theorem d273_58 : decode prog_14_method_115_code 58 = .ok (.iconst 1, 1) := by decide +kernel
theorem d273_59 : decode prog_14_method_115_code 59 = .ok (.goto 4, 3) := by decide +kernel
theorem d273_62 : decode prog_14_method_115_code 62 = .ok (.iconst 0, 1) := by decide +kernel
theorem d273_63 : decode prog_14_method_115_code 63 = .ok (.istore_n 2, 1) := by decide +kernel
theorem d273_64 : decode prog_14_method_115_code 64 = .ok (.aload_n 0, 1) := by decide +kernel
theorem d273_65 : decode prog_14_method_115_code 65 = .ok (.getfield 86, 3) := by decide +kernel
theorem d273_68 : decode prog_14_method_115_code 68 = .ok (.iload_n 1, 1) := by decide +kernel
theorem d273_69 : decode prog_14_method_115_code 69 = .ok (.iload_n 2, 1) := by decide +kernel
theorem d273_70 : decode prog_14_method_115_code 70 = .ok (.ifCond .eq 10, 3) := by decide +kernel
theorem d273_73 : decode prog_14_method_115_code 73 = .ok (.aload_n 0, 1) := by decide +kernel
theorem d273_74 : decode prog_14_method_115_code 74 = .ok (.getfield 635, 3) := by decide +kernel
theorem d273_77 : decode prog_14_method_115_code 77 = .ok (.goto 23, 3) := by decide +kernel
theorem d273_80 : decode prog_14_method_115_code 80 = .ok (.aload_n 0, 1) := by decide +kernel
theorem d273_81 : decode prog_14_method_115_code 81 = .ok (.getfield 29, 3) := by decide +kernel
theorem d273_84 : decode prog_14_method_115_code 84 = .ok (.aload_n 0, 1) := by decide +kernel
theorem d273_85 : decode prog_14_method_115_code 85 = .ok (.getfield 74, 3) := by decide +kernel
theorem d273_88 : decode prog_14_method_115_code 88 = .ok (.iload_n 1, 1) := by decide +kernel
theorem d273_89 : decode prog_14_method_115_code 89 = .ok (.iaload, 1) := by decide +kernel
theorem d273_90 : decode prog_14_method_115_code 90 = .ok (.iaload, 1) := by decide +kernel
theorem d273_91 : decode prog_14_method_115_code 91 = .ok (.iconst 3, 1) := by decide +kernel
theorem d273_92 : decode prog_14_method_115_code 92 = .ok (.if_icmp .ne 7, 3) := by decide +kernel
theorem d273_95 : decode prog_14_method_115_code 95 = .ok (.iconst 0, 1) := by decide +kernel
theorem d273_96 : decode prog_14_method_115_code 96 = .ok (.goto 4, 3) := by decide +kernel
theorem d273_99 : decode prog_14_method_115_code 99 = .ok (.iconst (-1), 1) := by decide +kernel
theorem d273_100 : decode prog_14_method_115_code 100 = .ok (.iastore, 1) := by decide +kernel
theorem d273_101 : decode prog_14_method_115_code 101 = .ok (.aload_n 0, 1) := by decide +kernel
theorem d273_102 : decode prog_14_method_115_code 102 = .ok (.dup, 1) := by decide +kernel
theorem d273_103 : decode prog_14_method_115_code 103 = .ok (.getfield 635, 3) := by decide +kernel
theorem d273_106 : decode prog_14_method_115_code 106 = .ok (.iload_n 2, 1) := by decide +kernel
theorem d273_107 : decode prog_14_method_115_code 107 = .ok (.ifCond .eq 12, 3) := by decide +kernel
theorem d273_110 : decode prog_14_method_115_code 110 = .ok (.aload_n 0, 1) := by decide +kernel
theorem d273_111 : decode prog_14_method_115_code 111 = .ok (.getfield 83, 3) := by decide +kernel
theorem d273_114 : decode prog_14_method_115_code 114 = .ok (.iload_n 1, 1) := by decide +kernel
theorem d273_115 : decode prog_14_method_115_code 115 = .ok (.iaload, 1) := by decide +kernel
theorem d273_116 : decode prog_14_method_115_code 116 = .ok (.goto 4, 3) := by decide +kernel
theorem d273_119 : decode prog_14_method_115_code 119 = .ok (.iconst 0, 1) := by decide +kernel
theorem d273_120 : decode prog_14_method_115_code 120 = .ok (.iadd, 1) := by decide +kernel
theorem d273_121 : decode prog_14_method_115_code 121 = .ok (.putfield 635, 3) := by decide +kernel
theorem d273_124 : decode prog_14_method_115_code 124 = .ok (.iinc 1 1, 3) := by decide +kernel
theorem d273_127 : decode prog_14_method_115_code 127 = .ok (.goto (-92), 3) := by decide +kernel
theorem d273_130 : decode prog_14_method_115_code 130 = .ok (.aload_n 0, 1) := by decide +kernel
theorem d273_131 : decode prog_14_method_115_code 131 = .ok (.getfield 635, 3) := by decide +kernel
theorem d273_134 : decode prog_14_method_115_code 134 = .ok (.sipush 8192, 3) := by decide +kernel
theorem d273_137 : decode prog_14_method_115_code 137 = .ok (.if_icmp .le 8, 3) := by decide +kernel
theorem d273_140 : decode prog_14_method_115_code 140 = .ok (.bipush 42, 2) := by decide +kernel
theorem d273_142 : decode prog_14_method_115_code 142 = .ok (.goto 4, 3) := by decide +kernel
theorem d273_145 : decode prog_14_method_115_code 145 = .ok (.iconst 0, 1) := by decide +kernel
theorem d273_146 : decode prog_14_method_115_code 146 = .ok (.ireturn, 1) := by decide +kernel
theorem m273 : pm_m 273 = some (⟨"TypeRulesModel", "rootRule", "()I"⟩, prog_14_method_115_code, 3, (some FieldType.int), 10, 0, 11) := rfl
/-! THE ROOT in the reference: the blocks' places -/
theorem rr_x49 {l : List pg_N} {a : Nat → Nat} {R : Int32 → Int32 → Prop} {σ0 σ : pm_S} {fl : Bool} {u : Nat} {A : rl_A} (h : rr_I l a R σ0 σ fl u A) (x : Int32) : rr_I l a R σ0 (pm_pi σ 10 49 x) fl u A := ⟨h.1, h.2.1, rr_pi h.2.2.1 (by decide), h.2.2.2.1, rb_x h.2.2.2.2.1 (fun _ _ _ => rfl) rfl, rv_x h.2.2.2.2.2.1 (fun _ _ _ => rfl) rfl, h.2.2.2.2.2.2⟩
theorem rr_x68 {l : List pg_N} {a : Nat → Nat} {R : Int32 → Int32 → Prop} {σ0 σ : pm_S} {fl : Bool} {u : Nat} {A : rl_A} (h : rr_I l a R σ0 σ fl u A) (f : Nat → Int32) : rr_I l a R σ0 (pm_pr σ 68 f) fl u A := ⟨h.1, h.2.1, rr_pr h.2.2.1 (by decide), fun i hi => by
  rw [pm_rne (by decide), pm_rne (by decide), pm_rne (by decide)]
  exact h.2.2.2.1 i hi, rb_x h.2.2.2.2.1 (fun q _ _ => pm_rne (by omega)) rfl, rv_x h.2.2.2.2.2.1 (fun q _ _ => pm_rne (by omega)) rfl, h.2.2.2.2.2.2⟩
def rp_R (A : rl_A) (σ : pm_S) : Prop := σ.1 10 49 = nI (rl_all A.1) ∧ ∀ b, b < A.1.length → σ.2.2 68 b = cl_P A.1 b
theorem re273l {d : Nat} {l : List pg_N} {a : Nat → Nat} {R : Int32 → Int32 → Prop} {σ0 : pm_S} {u : Nat} {A : rl_A} {Q : Option Value → pm_S → Prop} (hkb : ∀ y ∈ A.1, y.1 < 2 ^ 20) (hall : rl_all A.1 < 2 ^ 30) (hQ : ∀ σ', rr_I l a R σ0 σ' false u A → rp_R A σ' → Q (some (.int (nI (if 8192 < rl_all A.1 then 42 else 0)))) σ') : ∀ (n b beh : Nat) (σ : pm_S) (w2 : Value), b + n = A.1.length → rr_I l a R σ0 σ false u A → σ.1 10 49 = nI beh → (∀ j, j < b → σ.2.2 68 j = cl_P A.1 j) → (∀ j, cl_P A.1 (b + j) = (rl_pl beh (A.1.reverse.drop b)).getD j (-1)) → rl_pe beh (A.1.reverse.drop b) = rl_all A.1 → pm_WP pm_Y0 (pm_call pm_Y0 (d + 1)) 10 prog_14_method_115_code (some FieldType.int) Q 35 [.ref 10, .int (nI b), w2] [] σ := by
  have eal := nI_toInt (n := rl_all A.1) (by omega)
  intro n
  induction n with
  | zero =>
    intro b beh σ w2 hb h e49 h68 hP hE
    have : b = A.1.length := by omega
    subst this
    have e35 := h.2.2.2.2.1.2.1
    have e0 : beh = rl_all A.1 := by
      rw [List.drop_eq_nil_of_le (by rw [List.length_reverse]; exact Nat.le_refl _)] at hE
      exact hE
    rw [e0] at e49
    refine wq_l 36 d273_35 rfl rfl rfl rfl ?_
    refine wq_l 37 d273_36 rfl rfl rfl rfl ?_
    refine wq_gf (ci := 10) (j := 35) (f := 0) (v := .int (nI A.1.length)) 40 d273_37 rfl rfl rfl (congrArg Value.int (e35)) rfl ?_
    refine wq_b 130 43 d273_40 rfl (by decide) rfl (fun c40 => ?_) (fun c40 => absurd (by rw [i_le]; exact Int.le_refl _) c40)
    refine wq_l 131 d273_130 rfl rfl rfl rfl ?_
    refine wq_gf (ci := 10) (j := 49) (f := 0) (v := .int (nI (rl_all A.1))) 134 d273_131 rfl rfl rfl (congrArg Value.int (e49)) rfl ?_
    refine wq_k 137 8192 d273_134 (by decide) rfl ?_
    refine wq_b 145 140 d273_137 rfl (by decide) rfl (fun c137 => ?_) (fun c137 => ?_)
    · -- pc 145
      refine wq_k 146 0 d273_145 (by decide) rfl ?_
      refine wq_ri d273_146 (rfl) ?_
      rw [i_le, eal] at c137
      have c137 : _ ≤ (8192 : Int) := c137
      have hQ := hQ σ h ⟨e49, h68⟩
      rw [if_neg (by omega)] at hQ
      exact hQ
    · -- pc 140
      refine wq_k 142 42 d273_140 (by decide) rfl ?_
      refine wq_g 146 d273_142 (by decide) ?_
      refine wq_ri d273_146 (rfl) ?_
      rw [i_le, eal] at c137
      have c137 : ¬ _ ≤ (8192 : Int) := c137
      have hQ := hQ σ h ⟨e49, h68⟩
      rw [if_pos (by omega)] at hQ
      exact hQ
  | succ n ih =>
    intro b beh σ w2 hb h e49 h68 hP hE
    have e35 := h.2.2.2.2.1.2.1
    have hB9 := h.2.2.2.2.1.1
    have eB := nI_toInt (n := A.1.length) (by omega)
    have eb := nI_toInt (n := b) (by omega)
    have ecl := nI_clamp (n := b) (by omega)
    have hbl : b < A.1.reverse.length := by rw [List.length_reverse]; omega
    have ey : rl_blk A.1 b = some (A.1.reverse[b]'hbl) := List.getElem?_eq_getElem hbl
    have hd := List.drop_eq_getElem_cons hbl
    rw [hd] at hP hE
    rw [rl_pec] at hE
    have hy : (A.1.reverse[b]'hbl) ∈ A.1 := List.mem_reverse.mp (List.getElem_mem hbl)
    generalize A.1.reverse[b]'hbl = y at *
    obtain ⟨y1, y2, y3, y4, y5, y6, y7⟩ := h.2.2.2.2.1.2.2 b y ey
    have y7 := y7 (Or.inl rfl)
    have kb := hkb y hy
    have by' := rt_b (rr_T h) y1
    have ky := rt_k (rr_T h) y1
    rw [y2] at ky
    have bb : vp_in (nI b) 800 := vp_in_iff.mpr (by rw [eb]; omega)
    have pb : cl_P A.1 b = (if y.1 = 3 then 0 else if y.1 = 1 then nI beh else -1) := hP 0
    have hP' : ∀ j, cl_P A.1 (b + 1 + j) = (rl_pl (if y.1 = 1 then beh + y.2.2.2.1 else beh) (A.1.reverse.drop (b + 1))).getD j (-1) := fun j => by
      have := hP (j + 1)
      rw [show b + (j + 1) = b + 1 + j by omega] at this
      exact this
    have st : ∀ (v w : Int32) (x2 : Value), v = cl_P A.1 b → w = nI (if y.1 = 1 then beh + y.2.2.2.1 else beh) → pm_WP pm_Y0 (pm_call pm_Y0 (d + 1)) 10 prog_14_method_115_code (some FieldType.int) Q 35 [.ref 10, .int (nI (b + 1)), x2] [] (pm_pi (pm_pr σ 68 (upd (σ.2.2 68) b v)) 10 49 w) := fun v w x2 hv hw => by
      refine ih (b + 1) _ _ x2 (by omega) (rr_x49 (rr_x68 h _) _) hw (fun j hj => ?_) hP' hE
      show upd (σ.2.2 68) b v j = _
      rw [upd_if]
      by_cases q : j = b
      · rw [if_pos q, hv, q]
      · rw [if_neg q]; exact h68 j (by omega)
    by_cases k1 : y.1 = 1
    · skip
      refine wq_l 36 d273_35 rfl rfl rfl rfl ?_
      refine wq_l 37 d273_36 rfl rfl rfl rfl ?_
      refine wq_gf (ci := 10) (j := 35) (f := 0) (v := .int (nI A.1.length)) 40 d273_37 rfl rfl rfl (congrArg Value.int (e35)) rfl ?_
      refine wq_b 130 43 d273_40 rfl (by decide) rfl (fun c40 => absurd c40 (by rw [i_le, eB, eb]; omega)) (fun c40 => ?_)
      refine wq_l 44 d273_43 rfl rfl rfl rfl ?_
      refine wq_gr (ci := 10) (j := 16) (q := 49) 47 d273_44 rfl rfl rfl rfl ?_
      refine wq_l 48 d273_47 rfl rfl rfl rfl ?_
      refine wq_gr (ci := 10) (j := 36) (q := 64) 51 d273_48 rfl rfl rfl rfl ?_
      refine wq_l 52 d273_51 rfl rfl rfl rfl ?_
      refine wq_al 53 d273_52 rfl rfl rfl (bb) ?_
      rw [ecl, y4]
      refine wq_al 54 d273_53 rfl rfl rfl (by') ?_
      rw [ky]
      refine wq_k 55 1 d273_54 (by decide) rfl ?_
      refine wq_b 62 58 d273_55 rfl (by decide) rfl (fun c55 => absurd c55 (fun z => z (by rw [k1]; rfl))) (fun c55 => ?_)
      refine wq_k 59 1 d273_58 (by decide) rfl ?_
      refine wq_g 63 d273_59 (by decide) ?_
      refine wq_s 64 d273_63 rfl rfl (Nat.le_of_ble_eq_true rfl) rfl rfl ?_
      refine wq_l 65 d273_64 rfl rfl rfl rfl ?_
      refine wq_gr (ci := 10) (j := 40) (q := 68) 68 d273_65 rfl rfl rfl rfl ?_
      refine wq_l 69 d273_68 rfl rfl rfl rfl ?_
      refine wq_l 70 d273_69 rfl rfl rfl rfl ?_
      refine wq_b 80 73 d273_70 rfl (by decide) rfl (fun c70 => absurd c70 (by decide)) (fun c70 => ?_)
      refine wq_l 74 d273_73 rfl rfl rfl rfl ?_
      refine wq_gf (ci := 10) (j := 49) (f := 0) (v := .int (nI beh)) 77 d273_74 rfl rfl rfl (congrArg Value.int (e49)) rfl ?_
      refine wq_g 100 d273_77 (by decide) ?_
      refine wq_as 101 d273_100 rfl rfl rfl (bb) ?_
      refine wq_l 102 d273_101 rfl rfl rfl rfl ?_
      refine wq_a 103 d273_102 rfl rfl ?_
      refine wq_gf (ci := 10) (j := 49) (f := 0) (v := .int (nI beh)) 106 d273_103 rfl rfl rfl (congrArg Value.int (e49)) rfl ?_
      refine wq_l 107 d273_106 rfl rfl rfl rfl ?_
      refine wq_b 119 110 d273_107 rfl (by decide) rfl (fun c107 => absurd c107 (by decide)) (fun c107 => ?_)
      refine wq_l 111 d273_110 rfl rfl rfl rfl ?_
      refine wq_gr (ci := 10) (j := 39) (q := 67) 114 d273_111 rfl rfl rfl rfl ?_
      refine wq_l 115 d273_114 rfl rfl rfl rfl ?_
      refine wq_al 116 d273_115 rfl rfl rfl (bb) ?_
      rw [show (pm_pr σ 68 (upd (σ.2.2 68) (nI b).toNatClampNeg _)).2.2 67 (nI b).toNatClampNeg = nI y.2.2.2.1 by rw [pm_rne (by decide), ecl]; exact y7]
      refine wq_g 120 d273_116 (by decide) ?_
      refine wq_a 121 d273_120 rfl rfl ?_
      refine wq_pf (ci := 10) (j := 49) 124 d273_121 rfl rfl rfl ⟨rfl, rfl⟩ rfl ?_
      refine wq_i 127 d273_124 rfl rfl rfl ?_
      refine wq_g 35 d273_127 (by decide) ?_
      rw [ecl, pm_nr0, show nI b + Int32.ofInt 1 = nI (b + 1) from nI_1 _]
      exact st _ _ _ (by rw [pb, if_neg (by omega), if_pos k1]) (by rw [if_pos k1]; exact nI_ad _ _)
    · by_cases k3 : y.1 = 3
      · skip
        refine wq_l 36 d273_35 rfl rfl rfl rfl ?_
        refine wq_l 37 d273_36 rfl rfl rfl rfl ?_
        refine wq_gf (ci := 10) (j := 35) (f := 0) (v := .int (nI A.1.length)) 40 d273_37 rfl rfl rfl (congrArg Value.int (e35)) rfl ?_
        refine wq_b 130 43 d273_40 rfl (by decide) rfl (fun c40 => absurd c40 (by rw [i_le, eB, eb]; omega)) (fun c40 => ?_)
        refine wq_l 44 d273_43 rfl rfl rfl rfl ?_
        refine wq_gr (ci := 10) (j := 16) (q := 49) 47 d273_44 rfl rfl rfl rfl ?_
        refine wq_l 48 d273_47 rfl rfl rfl rfl ?_
        refine wq_gr (ci := 10) (j := 36) (q := 64) 51 d273_48 rfl rfl rfl rfl ?_
        refine wq_l 52 d273_51 rfl rfl rfl rfl ?_
        refine wq_al 53 d273_52 rfl rfl rfl (bb) ?_
        rw [ecl, y4]
        refine wq_al 54 d273_53 rfl rfl rfl (by') ?_
        rw [ky]
        refine wq_k 55 1 d273_54 (by decide) rfl ?_
        refine wq_b 62 58 d273_55 rfl (by decide) rfl (fun c55 => ?_) (fun c55 => absurd (fun z => by have z := hp_inj (b := 1) (by omega) (by decide) z; omega) c55)
        refine wq_k 63 0 d273_62 (by decide) rfl ?_
        refine wq_s 64 d273_63 rfl rfl (Nat.le_of_ble_eq_true rfl) rfl rfl ?_
        refine wq_l 65 d273_64 rfl rfl rfl rfl ?_
        refine wq_gr (ci := 10) (j := 40) (q := 68) 68 d273_65 rfl rfl rfl rfl ?_
        refine wq_l 69 d273_68 rfl rfl rfl rfl ?_
        refine wq_l 70 d273_69 rfl rfl rfl rfl ?_
        refine wq_b 80 73 d273_70 rfl (by decide) rfl (fun c70 => ?_) (fun c70 => absurd (by decide) c70)
        refine wq_l 81 d273_80 rfl rfl rfl rfl ?_
        refine wq_gr (ci := 10) (j := 16) (q := 49) 84 d273_81 rfl rfl rfl rfl ?_
        refine wq_l 85 d273_84 rfl rfl rfl rfl ?_
        refine wq_gr (ci := 10) (j := 36) (q := 64) 88 d273_85 rfl rfl rfl rfl ?_
        refine wq_l 89 d273_88 rfl rfl rfl rfl ?_
        refine wq_al 90 d273_89 rfl rfl rfl (bb) ?_
        rw [ecl, y4]
        refine wq_al 91 d273_90 rfl rfl rfl (by') ?_
        rw [ky]
        refine wq_k 92 3 d273_91 (by decide) rfl ?_
        refine wq_b 99 95 d273_92 rfl (by decide) rfl (fun c92 => absurd c92 (fun z => z (by rw [k3]; rfl))) (fun c92 => ?_)
        refine wq_k 96 0 d273_95 (by decide) rfl ?_
        refine wq_g 100 d273_96 (by decide) ?_
        refine wq_as 101 d273_100 rfl rfl rfl (bb) ?_
        refine wq_l 102 d273_101 rfl rfl rfl rfl ?_
        refine wq_a 103 d273_102 rfl rfl ?_
        refine wq_gf (ci := 10) (j := 49) (f := 0) (v := .int (nI beh)) 106 d273_103 rfl rfl rfl (congrArg Value.int (e49)) rfl ?_
        refine wq_l 107 d273_106 rfl rfl rfl rfl ?_
        refine wq_b 119 110 d273_107 rfl (by decide) rfl (fun c107 => ?_) (fun c107 => absurd (by decide) c107)
        refine wq_k 120 0 d273_119 (by decide) rfl ?_
        refine wq_a 121 d273_120 rfl rfl ?_
        refine wq_pf (ci := 10) (j := 49) 124 d273_121 rfl rfl rfl ⟨rfl, rfl⟩ rfl ?_
        refine wq_i 127 d273_124 rfl rfl rfl ?_
        refine wq_g 35 d273_127 (by decide) ?_
        rw [ecl, pm_nr0, show nI b + Int32.ofInt 1 = nI (b + 1) from nI_1 _]
        exact st _ _ _ (by rw [pb, if_pos k3]) (by rw [if_neg k1]; exact Int32.add_zero _)
      · skip
        refine wq_l 36 d273_35 rfl rfl rfl rfl ?_
        refine wq_l 37 d273_36 rfl rfl rfl rfl ?_
        refine wq_gf (ci := 10) (j := 35) (f := 0) (v := .int (nI A.1.length)) 40 d273_37 rfl rfl rfl (congrArg Value.int (e35)) rfl ?_
        refine wq_b 130 43 d273_40 rfl (by decide) rfl (fun c40 => absurd c40 (by rw [i_le, eB, eb]; omega)) (fun c40 => ?_)
        refine wq_l 44 d273_43 rfl rfl rfl rfl ?_
        refine wq_gr (ci := 10) (j := 16) (q := 49) 47 d273_44 rfl rfl rfl rfl ?_
        refine wq_l 48 d273_47 rfl rfl rfl rfl ?_
        refine wq_gr (ci := 10) (j := 36) (q := 64) 51 d273_48 rfl rfl rfl rfl ?_
        refine wq_l 52 d273_51 rfl rfl rfl rfl ?_
        refine wq_al 53 d273_52 rfl rfl rfl (bb) ?_
        rw [ecl, y4]
        refine wq_al 54 d273_53 rfl rfl rfl (by') ?_
        rw [ky]
        refine wq_k 55 1 d273_54 (by decide) rfl ?_
        refine wq_b 62 58 d273_55 rfl (by decide) rfl (fun c55 => ?_) (fun c55 => absurd (fun z => by have z := hp_inj (b := 1) (by omega) (by decide) z; omega) c55)
        refine wq_k 63 0 d273_62 (by decide) rfl ?_
        refine wq_s 64 d273_63 rfl rfl (Nat.le_of_ble_eq_true rfl) rfl rfl ?_
        refine wq_l 65 d273_64 rfl rfl rfl rfl ?_
        refine wq_gr (ci := 10) (j := 40) (q := 68) 68 d273_65 rfl rfl rfl rfl ?_
        refine wq_l 69 d273_68 rfl rfl rfl rfl ?_
        refine wq_l 70 d273_69 rfl rfl rfl rfl ?_
        refine wq_b 80 73 d273_70 rfl (by decide) rfl (fun c70 => ?_) (fun c70 => absurd (by decide) c70)
        refine wq_l 81 d273_80 rfl rfl rfl rfl ?_
        refine wq_gr (ci := 10) (j := 16) (q := 49) 84 d273_81 rfl rfl rfl rfl ?_
        refine wq_l 85 d273_84 rfl rfl rfl rfl ?_
        refine wq_gr (ci := 10) (j := 36) (q := 64) 88 d273_85 rfl rfl rfl rfl ?_
        refine wq_l 89 d273_88 rfl rfl rfl rfl ?_
        refine wq_al 90 d273_89 rfl rfl rfl (bb) ?_
        rw [ecl, y4]
        refine wq_al 91 d273_90 rfl rfl rfl (by') ?_
        rw [ky]
        refine wq_k 92 3 d273_91 (by decide) rfl ?_
        refine wq_b 99 95 d273_92 rfl (by decide) rfl (fun c92 => ?_) (fun c92 => absurd (fun z => by have z := hp_inj (b := 3) (by omega) (by decide) z; omega) c92)
        refine wq_k 100 (-1) d273_99 (by decide) rfl ?_
        refine wq_as 101 d273_100 rfl rfl rfl (bb) ?_
        refine wq_l 102 d273_101 rfl rfl rfl rfl ?_
        refine wq_a 103 d273_102 rfl rfl ?_
        refine wq_gf (ci := 10) (j := 49) (f := 0) (v := .int (nI beh)) 106 d273_103 rfl rfl rfl (congrArg Value.int (e49)) rfl ?_
        refine wq_l 107 d273_106 rfl rfl rfl rfl ?_
        refine wq_b 119 110 d273_107 rfl (by decide) rfl (fun c107 => ?_) (fun c107 => absurd (by decide) c107)
        refine wq_k 120 0 d273_119 (by decide) rfl ?_
        refine wq_a 121 d273_120 rfl rfl ?_
        refine wq_pf (ci := 10) (j := 49) 124 d273_121 rfl rfl rfl ⟨rfl, rfl⟩ rfl ?_
        refine wq_i 127 d273_124 rfl rfl rfl ?_
        refine wq_g 35 d273_127 (by decide) ?_
        rw [ecl, pm_nr0, show nI b + Int32.ofInt 1 = nI (b + 1) from nI_1 _]
        exact st _ _ _ (by rw [pb, if_neg k3, if_neg k1]) (by rw [if_neg k1]; exact Int32.add_zero _)
theorem re273 {d : Nat} {l : List pg_N} {a : Nat → Nat} {R : Int32 → Int32 → Prop} {σ0 σ : pm_S} {u : Nat} {A : rl_A} {Q : Option Value → pm_S → Prop} (h : rr_I l a R σ0 σ false u A) (hp : pv_B A.1) (hall : rl_all A.1 < 2 ^ 30) (hQ : ∀ σ', rr_F σ0 σ' → ((if A.1 = [] ∨ (rl_cur A).1 ≠ 3 then 10 else if 8192 < rl_all A.1 then 42 else 0) = 0 → rr_I l a R σ0 σ' false u A ∧ rp_R A σ') → Q (some (.int (nI (if A.1 = [] ∨ (rl_cur A).1 ≠ 3 then 10 else if 8192 < rl_all A.1 then 42 else 0)))) σ') : pm_call pm_Y0 (d + 2) 273 [.ref 10] σ Q := by
  have e35 := h.2.2.2.2.1.2.1
  have hB9 := h.2.2.2.2.1.1
  by_cases hB : A.1 = []
  · rw [if_pos (Or.inl hB)] at hQ
    have e0 : nI A.1.length = 0 := by rw [hB]; rfl
    refine wq_m m273 (Nat.le_of_ble_eq_true rfl) (by decide) rfl ?_
    refine wq_l 1 d273_0 rfl rfl rfl rfl ?_
    refine wq_gf (ci := 10) (j := 35) (f := 0) (v := .int (nI A.1.length)) 4 d273_1 rfl rfl rfl (congrArg Value.int (e35)) rfl ?_
    refine wq_b 15 7 d273_4 rfl (by decide) rfl (fun c4 => ?_) (fun c4 => absurd (e0) c4)
    refine wq_k 17 10 d273_15 (by decide) rfl ?_
    refine wq_ri d273_17 (rfl) ?_
    exact hQ σ h.2.2.1 (fun z => absurd z (by decide))
  · have hl := rl_len hB
    have kc := (pv_cur hp hB).1
    have e0 : ¬ nI A.1.length = 0 := fun z => by have z := hp_inj (b := 0) (by omega) (by decide) z; omega
    have es : nI A.1.length - 1 = nI (A.1.length - 1) := nI_sbl (b := 1) (by omega)
    have eb := nI_toInt (n := A.1.length - 1) (by omega)
    have ecl := nI_clamp (n := A.1.length - 1) (by omega)
    have e67 := (h.2.2.2.2.1.2.2 _ _ (rl_blkh hB)).2.2.2.2.2.2 (Or.inl rfl)
    refine wq_m m273 (Nat.le_of_ble_eq_true rfl) (by decide) rfl ?_
    refine wq_l 1 d273_0 rfl rfl rfl rfl ?_
    refine wq_gf (ci := 10) (j := 35) (f := 0) (v := .int (nI A.1.length)) 4 d273_1 rfl rfl rfl (congrArg Value.int (e35)) rfl ?_
    refine wq_b 15 7 d273_4 rfl (by decide) rfl (fun c4 => absurd c4 (e0)) (fun c4 => ?_)
    refine wq_l 8 d273_7 rfl rfl rfl rfl ?_
    refine wq_v 11 [] d273_8 rfl rfl m267 rfl rfl (Nat.le_of_ble_eq_true rfl) rfl (re267 h hB ?_)
    refine wq_k 12 3 d273_11 (by decide) rfl ?_
    refine wq_b 18 15 d273_12 rfl (by decide) rfl (fun c12 => ?_) (fun c12 => ?_)
    · -- pc 18
      refine wq_l 19 d273_18 rfl rfl rfl rfl ?_
      refine wq_l 20 d273_19 rfl rfl rfl rfl ?_
      refine wq_gr (ci := 10) (j := 39) (q := 67) 23 d273_20 rfl rfl rfl rfl ?_
      refine wq_l 24 d273_23 rfl rfl rfl rfl ?_
      refine wq_gf (ci := 10) (j := 35) (f := 0) (v := .int (nI A.1.length)) 27 d273_24 rfl rfl rfl (congrArg Value.int (e35)) rfl ?_
      refine wq_k 28 1 d273_27 (by decide) rfl ?_
      refine wq_a 29 d273_28 rfl rfl ?_
      rw [es]
      refine wq_al 30 d273_29 rfl rfl rfl (vp_in_iff.mpr (by rw [eb]; omega)) ?_
      rw [ecl, e67]
      refine wq_pf (ci := 10) (j := 49) 33 d273_30 rfl rfl rfl ⟨rfl, rfl⟩ rfl ?_
      refine wq_k 34 0 d273_33 (by decide) rfl ?_
      refine wq_s 35 d273_34 rfl rfl (Nat.le_of_ble_eq_true rfl) rfl rfl ?_
      have k3 : (rl_cur A).1 = 3 := hp_inj (b := 3) (by omega) (by decide) c12
      rw [if_neg (fun z => z.elim hB (fun w => w k3))] at hQ
      refine re273l (fun y hy => ?_) hall (fun σ' h' r' => hQ σ' h'.2.2.1 (fun z => ⟨h', r'⟩)) A.1.length 0 (rl_hd A.1).2.2.2.1 _ _ (Nat.zero_add _) (rr_x49 h _) rfl (fun j hj => absurd hj (Nat.not_lt_zero _)) (fun j => ?_) ?_
      · obtain ⟨b, hb⟩ := List.getElem?_of_mem (List.mem_reverse.mpr hy)
        obtain ⟨r', _, hY⟩ := pv_blk hp (show rl_blk A.1 b = some y from hb)
        have := hY.1
        omega
      · rw [Nat.zero_add, List.drop_zero]; rfl
      · rw [List.drop_zero]; exact rl_peall
    · -- pc 15
      refine wq_k 17 10 d273_15 (by decide) rfl ?_
      refine wq_ri d273_17 (rfl) ?_
      rw [if_pos (Or.inr (fun z => c12 (by rw [z]; rfl)))] at hQ
      exact hQ σ h.2.2.1 (fun z => absurd z (by decide))
