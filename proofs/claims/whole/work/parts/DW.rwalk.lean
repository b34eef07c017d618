theorem d265_0 : decode prog_14_method_119_code 0 = .ok (.iconst 0, 1) := by decide +kernel
theorem d265_1 : decode prog_14_method_119_code 1 = .ok (.istore_n 1, 1) := by decide +kernel
theorem d265_2 : decode prog_14_method_119_code 2 = .ok (.iconst 1, 1) := by decide +kernel
theorem d265_3 : decode prog_14_method_119_code 3 = .ok (.istore_n 2, 1) := by decide +kernel
theorem d265_4 : decode prog_14_method_119_code 4 = .ok (.iload_n 1, 1) := by decide +kernel
theorem d265_5 : decode prog_14_method_119_code 5 = .ok (.ifCond .lt 131, 3) := by decide +kernel
theorem d265_8 : decode prog_14_method_119_code 8 = .ok (.aload_n 0, 1) := by decide +kernel
theorem d265_9 : decode prog_14_method_119_code 9 = .ok (.getfield 135, 3) := by decide +kernel
theorem d265_12 : decode prog_14_method_119_code 12 = .ok (.ifCond .ne 124, 3) := by decide +kernel
theorem d265_15 : decode prog_14_method_119_code 15 = .ok (.iload_n 2, 1) := by decide +kernel
theorem d265_16 : decode prog_14_method_119_code 16 = .ok (.ifCond .eq 37, 3) := by decide +kernel
theorem d265_19 : decode prog_14_method_119_code 19 = .ok (.aload_n 0, 1) := by decide +kernel
theorem d265_20 : decode prog_14_method_119_code 20 = .ok (.getfield 29, 3) := by decide +kernel
theorem d265_23 : decode prog_14_method_119_code 23 = .ok (.iload_n 1, 1) := by decide +kernel
theorem d265_24 : decode prog_14_method_119_code 24 = .ok (.iaload, 1) := by decide +kernel
theorem d265_25 : decode prog_14_method_119_code 25 = .ok (.ifCond .le 28, 3) := by decide +kernel
theorem d265_28 : decode prog_14_method_119_code 28 = .ok (.aload_n 0, 1) := by decide +kernel
theorem d265_29 : decode prog_14_method_119_code 29 = .ok (.getfield 29, 3) := by decide +kernel
theorem d265_32 : decode prog_14_method_119_code 32 = .ok (.iload_n 1, 1) := by decide +kernel
theorem d265_33 : decode prog_14_method_119_code 33 = .ok (.iaload, 1) := by decide +kernel
theorem d265_34 : decode prog_14_method_119_code 34 = .ok (.iconst 4, 1) := by decide +kernel
theorem d265_35 : decode prog_14_method_119_code 35 = .ok (.if_icmp .ge 18, 3) := by decide +kernel
theorem d265_38 : decode prog_14_method_119_code 38 = .ok (.aload_n 0, 1) := by decide +kernel
theorem d265_39 : decode prog_14_method_119_code 39 = .ok (.aload_n 0, 1) := by decide +kernel
theorem d265_40 : decode prog_14_method_119_code 40 = .ok (.iload_n 1, 1) := by decide +kernel
theorem d265_41 : decode prog_14_method_119_code 41 = .ok (.invokevirtual 701, 3) := by decide +kernel
theorem d265_44 : decode prog_14_method_119_code 44 = .ok (.aload_n 0, 1) := by decide +kernel
theorem d265_45 : decode prog_14_method_119_code 45 = .ok (.getfield 32, 3) := by decide +kernel
theorem d265_48 : decode prog_14_method_119_code 48 = .ok (.iload_n 1, 1) := by decide +kernel
theorem d265_49 : decode prog_14_method_119_code 49 = .ok (.iaload, 1) := by decide +kernel
theorem d265_50 : decode prog_14_method_119_code 50 = .ok (.invokevirtual 144, 3) := by decide +kernel
theorem d265_53 : decode prog_14_method_119_code 53 = .ok (.iload_n 2, 1) := by decide +kernel
theorem d265_54 : decode prog_14_method_119_code 54 = .ok (.ifCond .eq 22, 3) := by decide +kernel
theorem d265_57 : decode prog_14_method_119_code 57 = .ok (.aload_n 0, 1) := by decide +kernel
theorem d265_58 : decode prog_14_method_119_code 58 = .ok (.getfield 38, 3) := by decide +kernel
theorem d265_61 : decode prog_14_method_119_code 61 = .ok (.iload_n 1, 1) := by decide +kernel
theorem d265_62 : decode prog_14_method_119_code 62 = .ok (.iaload, 1) := by decide +kernel
theorem d265_63 : decode prog_14_method_119_code 63 = .ok (.ifCond .lt 13, 3) := by decide +kernel
theorem d265_66 : decode prog_14_method_119_code 66 = .ok (.aload_n 0, 1) := by decide +kernel
theorem d265_67 : decode prog_14_method_119_code 67 = .ok (.getfield 38, 3) := by decide +kernel
theorem d265_70 : decode prog_14_method_119_code 70 = .ok (.iload_n 1, 1) := by decide +kernel
theorem d265_71 : decode prog_14_method_119_code 71 = .ok (.iaload, 1) := by decide +kernel
theorem d265_72 : decode prog_14_method_119_code 72 = .ok (.istore_n 1, 1) := by decide +kernel
theorem d265_73 : decode prog_14_method_119_code 73 = .ok (.goto (-69), 3) := by decide +kernel
theorem d265_76 : decode prog_14_method_119_code 76 = .ok (.aload_n 0, 1) := by decide +kernel
theorem d265_77 : decode prog_14_method_119_code 77 = .ok (.getfield 135, 3) := by decide +kernel
theorem d265_80 : decode prog_14_method_119_code 80 = .ok (.ifCond .ne (-76), 3) := by decide +kernel
theorem d265_83 : decode prog_14_method_119_code 83 = .ok (.aload_n 0, 1) := by decide +kernel
theorem d265_84 : decode prog_14_method_119_code 84 = .ok (.aload_n 0, 1) := by decide +kernel
theorem d265_85 : decode prog_14_method_119_code 85 = .ok (.iload_n 1, 1) := by decide +kernel
theorem d265_86 : decode prog_14_method_119_code 86 = .ok (.invokevirtual 704, 3) := by decide +kernel
theorem d265_89 : decode prog_14_method_119_code 89 = .ok (.aload_n 0, 1) := by decide +kernel
theorem d265_90 : decode prog_14_method_119_code 90 = .ok (.getfield 32, 3) := by decide +kernel
theorem d265_93 : decode prog_14_method_119_code 93 = .ok (.iload_n 1, 1) := by decide +kernel
theorem d265_94 : decode prog_14_method_119_code 94 = .ok (.iaload, 1) := by decide +kernel
theorem d265_95 : decode prog_14_method_119_code 95 = .ok (.invokevirtual 144, 3) := by decide +kernel
theorem d265_98 : decode prog_14_method_119_code 98 = .ok (.aload_n 0, 1) := by decide +kernel
theorem d265_99 : decode prog_14_method_119_code 99 = .ok (.getfield 44, 3) := by decide +kernel
theorem d265_102 : decode prog_14_method_119_code 102 = .ok (.iload_n 1, 1) := by decide +kernel
theorem d265_103 : decode prog_14_method_119_code 103 = .ok (.iaload, 1) := by decide +kernel
theorem d265_104 : decode prog_14_method_119_code 104 = .ok (.ifCond .lt 7, 3) := by decide +kernel
theorem d265_107 : decode prog_14_method_119_code 107 = .ok (.iconst 1, 1) := by decide +kernel
theorem d265_108 : decode prog_14_method_119_code 108 = .ok (.goto 4, 3) := by decide +kernel
theorem d265_111 : decode prog_14_method_119_code 111 = .ok (.iconst 0, 1) := by decide +kernel
theorem d265_112 : decode prog_14_method_119_code 112 = .ok (.istore_n 2, 1) := by decide +kernel
theorem d265_113 : decode prog_14_method_119_code 113 = .ok (.iload_n 2, 1) := by decide +kernel
theorem d265_114 : decode prog_14_method_119_code 114 = .ok (.ifCond .eq 12, 3) := by decide +kernel
theorem d265_117 : decode prog_14_method_119_code 117 = .ok (.aload_n 0, 1) := by decide +kernel
theorem d265_118 : decode prog_14_method_119_code 118 = .ok (.getfield 44, 3) := by decide +kernel
theorem d265_121 : decode prog_14_method_119_code 121 = .ok (.iload_n 1, 1) := by decide +kernel
theorem d265_122 : decode prog_14_method_119_code 122 = .ok (.iaload, 1) := by decide +kernel
theorem d265_123 : decode prog_14_method_119_code 123 = .ok (.goto 9, 3) := by decide +kernel
theorem d265_126 : decode prog_14_method_119_code 126 = .ok (.aload_n 0, 1) := by decide +kernel
theorem d265_127 : decode prog_14_method_119_code 127 = .ok (.getfield 47, 3) := by decide +kernel
theorem d265_130 : decode prog_14_method_119_code 130 = .ok (.iload_n 1, 1) := by decide +kernel
theorem d265_131 : decode prog_14_method_119_code 131 = .ok (.iaload, 1) := by decide +kernel
theorem d265_132 : decode prog_14_method_119_code 132 = .ok (.istore_n 1, 1) := by decide +kernel
theorem d265_133 : decode prog_14_method_119_code 133 = .ok (.goto (-129), 3) := by decide +kernel
theorem d265_136 : decode prog_14_method_119_code 136 = .ok (.return_, 1) := by decide +kernel
theorem m265 : pm_m 265 = some (⟨"TypeRulesModel", "checkAll", "()V"⟩, prog_14_method_119_code, 3, none, 10, 0, 11) := rfl
/-! THE WALK of the reference: checkAll -/
/-- what it leaves behind -/
def rr_G (σ0 σ : pm_S) : Prop := (∀ x b, (x = 10 ∧ (b = 6 ∨ b = 7 ∨ b = 35 ∨ b = 41 ∨ b = 48 ∨ b = 49)) ∨ σ.1 x b = σ0.1 x b) ∧ σ.2.1 = σ0.2.1 ∧ (∀ k, (56 ≤ k ∧ k ≤ 58) ∨ (64 ≤ k ∧ k ≤ 74) ∨ σ.2.2 k = σ0.2.2 k) ∧ rr_c σ
def rr_X (l : List pg_N) (a : Nat → Nat) (R : Int32 → Int32 → Prop) (σ0 σ : pm_S) (r : Nat × Nat × rl_W) : Prop := rr_G σ0 σ ∧ (r.1 = 0 → σ.1 10 6 = 0 ∧ ∃ u, rr_I l a R σ0 σ false u r.2.2.2.2 ∧ rp_R r.2.2.2.2 σ) ∧ (r.1 ≠ 0 → σ.1 10 6 = nI r.1 ∧ σ.1 10 7 = nI (rl_x l r.2.1).2.1)
theorem rr_fl {σ0 σ : pm_S} {x y : Int32} (h : rr_F σ0 σ) : rr_G σ0 (pm_pi (pm_pi σ 10 6 x) 10 7 y) := by
  have E : ∀ x' b', ¬ (x' = 10 ∧ (b' = 6 ∨ b' = 7)) → (pm_pi (pm_pi σ 10 6 x) 10 7 y).1 x' b' = σ.1 x' b' := fun x' b' q => by
    unfold pm_pi
    by_cases q1 : x' = 10
    · have q2 : b' ≠ 6 := fun z => q ⟨q1, Or.inl z⟩
      have q3 : b' ≠ 7 := fun z => q ⟨q1, Or.inr z⟩
      simp [q1, q2, q3]
    · simp [q1]
  refine ⟨fun x' b' => ?_, h.2.1, h.2.2.1, ?_⟩
  · by_cases q : x' = 10 ∧ (b' = 6 ∨ b' = 7)
    · exact Or.inl ⟨q.1, by omega⟩
    · rw [E x' b' q]
      rcases h.1 x' b' with w | w
      · exact Or.inl ⟨w.1, by omega⟩
      · exact Or.inr w
  · obtain ⟨c, c1, c2⟩ := h.2.2.2
    exact ⟨c, c1, (E 10 35 (fun z => by omega)).trans c2⟩
theorem rr_GF {σ0 σ : pm_S} (h : rr_G σ0 σ) (h6 : σ.1 10 6 = σ0.1 10 6) : rr_F σ0 σ := by
  refine ⟨fun x b => ?_, h.2⟩
  rcases h.1 x b with w | w
  · by_cases q : b = 6
    · rw [w.1, q]; exact Or.inr h6
    · exact Or.inl ⟨w.1, by omega⟩
  · exact Or.inr w
/-- no fault is written down -/
theorem rr_f0 {l : List pg_N} {a : Nat → Nat} {R : Int32 → Int32 → Prop} {σ0 σ : pm_S} {fl : Bool} {u : Nat} {A : rl_A} {y : Int32} (h6 : σ0.1 10 6 = 0) (h : rr_I l a R σ0 σ fl u A) : rr_I l a R σ0 (pm_pi (pm_pi σ 10 6 0) 10 7 y) fl u A :=
  ⟨h.1, h.2.1, rr_GF (rr_fl h.2.2.1) h6.symm, h.2.2.2.1, rb_x h.2.2.2.2.1 (fun _ _ _ => rfl) rfl, rv_x h.2.2.2.2.2.1 (fun _ _ _ => rfl) rfl, h.2.2.2.2.2.2⟩
theorem rr_6 {l : List pg_N} {a : Nat → Nat} {R : Int32 → Int32 → Prop} {σ0 σ : pm_S} {fl : Bool} {u : Nat} {A : rl_A} (h6 : σ0.1 10 6 = 0) (h : rr_F σ0 σ) : σ.1 10 6 = 0 := ((h.1 10 6).resolve_left (fun z => by omega)).trans h6
/-- where the walk stands -/
def rr_W (l : List pg_N) (a : Nat → Nat) (R : Int32 → Int32 → Prop) (σ0 σ : pm_S) (w : rl_W) : Prop := pi_I l w ∧ ∃ u, (∀ i, w.1 = some i → i ≠ 0 → rr_I l a R σ0 σ true u w.2.2 ∧ pe_I l u i w.2.1 w.2.2) ∧ ((∀ i, w.1 = some i → i = 0) → rr_I l a R σ0 σ false u w.2.2)
def rr_P (d : Nat) (l : List pg_N) (a : Nat → Nat) (R : Int32 → Int32 → Prop) (σ0 : pm_S) (Q : Option Value → pm_S → Prop) (n : Nat) : Prop := ∀ (st : Nat) (o : Option Nat) (nx : Nat) (A : rl_A) (σ : pm_S), st + n = 2 * l.length → st + pi_d l o = 2 * nx → rr_W l a R σ0 σ (o, nx, A) → (∀ σ', rr_X l a R σ0 σ' (rl_run l n (o, nx, A)) → Q none σ') → (nx < rl_end l o → pm_WP pm_Y0 (pm_call pm_Y0 (d + 6)) 10 prog_14_method_119_code none Q 4 [.ref 10, .int (nI (a nx)), .int 1] [] σ) ∧ ∀ i, o = some i → ¬ nx < i + rl_z l i → pm_WP pm_Y0 (pm_call pm_Y0 (d + 6)) 10 prog_14_method_119_code none Q 4 [.ref 10, .int (nI (a i)), .int 0] [] σ
theorem re265s {d : Nat} {Q : Option Value → pm_S → Prop} {σ : pm_S} {x y : Int32} (h6 : ¬ σ.1 10 6 = 0) (hQ : Q none σ) : pm_WP pm_Y0 (pm_call pm_Y0 (d + 6)) 10 prog_14_method_119_code none Q 4 [.ref 10, .int x, .int y] [] σ := by
  refine wq_l 5 d265_4 rfl rfl rfl rfl ?_
  refine wq_b 136 8 d265_5 rfl (by decide) rfl (fun c5 => ?_) (fun c5 => ?_)
  · -- pc 136
    refine wq_rv d265_136 ?_
    exact hQ
  · -- pc 8
    refine wq_l 9 d265_8 rfl rfl rfl rfl ?_
    refine wq_gf (ci := 10) (j := 6) (f := 0) (v := .int (σ.1 10 6)) 12 d265_9 rfl rfl rfl (congrArg Value.int (rfl)) rfl ?_
    refine wq_b 136 15 d265_12 rfl (by decide) rfl (fun c12 => ?_) (fun c12 => absurd (h6) c12)
    refine wq_rv d265_136 ?_
    exact hQ
theorem re265e {d : Nat} {Q : Option Value → pm_S → Prop} {σ : pm_S} {y : Int32} (hQ : Q none σ) : pm_WP pm_Y0 (pm_call pm_Y0 (d + 6)) 10 prog_14_method_119_code none Q 4 [.ref 10, .int (-1), .int y] [] σ := by
  refine wq_l 5 d265_4 rfl rfl rfl rfl ?_
  refine wq_b 136 8 d265_5 rfl (by decide) rfl (fun c5 => ?_) (fun c5 => absurd (by decide) c5)
  refine wq_rv d265_136 ?_
  exact hQ
/-- what lies around a node that is left -/
theorem rr_lv {l : List pg_N} {NN i nx u : Nat} {y : rl_B} {r : List rl_B} {T : (Nat → Int32) × (Nat → Int32) × (Nat → Int32)} (hG : lg_G l NN) (h0r : rl_k l 0 = 0) (hC : lg_C l) (hI : pi_I l (some i, nx, (y :: r, T))) (hn : ¬ nx < i + rl_z l i) (i0 : i ≠ 0) (hk : 3 < rl_k l i) (hE : pe_I l u i nx (y :: r, T)) : y.2.2.1 ∈ rl_up l i ∧ (∀ c ∈ rl_c l i, pe_N l (y :: r, T) c) ∧ (∀ b z, rl_blk (y :: r) b = some z → z.1 = 1 → z.2.2.1 + 1 < z.2.2.1 + rl_z l z.2.2.1 ∧ rp_nk (rl_k l (z.2.2.1 + 1)) = false) ∧ (rl_k l i = 5 → u = y.2.2.2.1) ∧ (rl_k l i = 7 → ∀ v ∈ y.2.2.2.2, v.2.1 = 3 → v.2.2.2.2.1 = -1) ∧ (∀ z ∈ y :: r, z.2.2.1 < l.length ∧ rl_k l z.2.2.1 = z.1) ∧ (y :: r).length ≤ 409 := by
  obtain ⟨gG, _, gB⟩ : pi_G l (some i) nx ∧ _ ∧ ∀ j, some i = some j → pi_B l j nx (y :: r) := hI
  obtain ⟨q1, q2, q3, _⟩ := pi_out hG gG hn
  obtain ⟨b1, b2, b3, b4, b5, b6, b7, b8, b9⟩ := gB i rfl
  have iz := (rl_zc hG.1 q1).2
  have hbl : ∀ z ∈ y :: r, z.2.2.1 < l.length ∧ rl_k l z.2.2.1 = z.1 := fun z hz => ⟨by have := (b2 z hz).1; omega, (b2 z hz).2.1⟩
  have hnd : y.2.2.1 ∈ rl_up l i := by
    rcases (b4 i0).2 with w | w
    · exfalso
      have w : y.2.2.1 = i := w
      have k := (hbl y (List.mem_cons_self ..)).2
      have k3 := b1.1.1
      rw [w] at k
      omega
    · exact w
  obtain ⟨m1, m2⟩ := rl_upm.mp hnd
  obtain ⟨yl, yk⟩ := hbl y (List.mem_cons_self ..)
  have kb : 1 ≤ rl_k l y.2.2.1 ∧ rl_k l y.2.2.1 ≤ 3 := by rw [yk]; exact b1.1.1
  refine ⟨hnd, fun c hc => ?_, fun b z hz z1 => ?_, fun k5 => ?_, fun k7 v hv v3 => ?_, hbl, ?_⟩
  · have cm := rl_cm hc
    exact hE.1 c (by show y.2.2.1 < c; omega) (by omega) (by omega) (fun w => by have := rl_upl w; omega)
  · have hz' : z ∈ y :: r := List.mem_reverse.mp (List.mem_of_getElem? (show (y :: r).reverse[b]? = some z from hz))
    obtain ⟨g1, g2⟩ := hbl z hz'
    obtain ⟨f1, f2, f3⟩ := lg_f1 hG g1 (by rw [g2]; exact z1)
    exact ⟨f2, by rw [f3]; rfl⟩
  · have h3 := hE.2.2
    have h3 : y.2.2.2.1 = pe_u l u y.2.2.1 nx + (if i = y.2.2.1 ∧ nx = y.2.2.1 + rl_z l y.2.2.1 ∧ rl_k l ((rl_c l y.2.2.1).getLastD 0) = 22 then 156 else 0) := h3
    rw [if_neg (fun z => by omega)] at h3
    unfold pe_u at h3
    rw [cn_z (fun j a1 a2 => sp_5 hG h0r yl kb q1 k5 hnd (by omega) (by omega))] at h3
    omega
  · have hR := lg_Rp hG q1 (by omega)
    have pl := (lg_par hG q1 (by omega)).1
    have kp := (lg_V hG (show rl_par l i < l.length by omega)).1
    rw [k7] at hR
    have k5 : rl_k l (rl_par l i) = 5 := sh_k7 _ (by omega) 7 (by decide) hR rfl
    obtain ⟨m, hp', yt, cs, D⟩ := lg_5 hG (show rl_par l i < l.length by omega) k5
    have im : i = rl_par l i + m + 1 := by
      rcases lg_Dc D (lg_par hG q1 (by omega)).2.1 with w | w | w | w
      · omega
      · exact w.1
      · omega
      · omega
    obtain ⟨u1, u2, u3⟩ := b5.2.1 k5 m hp' yt cs D
    obtain ⟨k, hk⟩ := List.getElem?_of_mem hv
    by_cases w : k < min m (i - rl_par l i - 1)
    · have := (u2 k v w hk).2.2
      rw [if_neg (by omega)] at this
      exact this
    · exact absurd v3 (u3 k v (by omega) hk)
  · rw [b6]
    have := cB_m l nx (l.length - nx)
    rw [show nx + (l.length - nx) = l.length by omega] at this
    exact Nat.le_trans this hC.1
