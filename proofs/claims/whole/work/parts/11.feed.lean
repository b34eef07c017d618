/-! THE FACE, but judge: what each method answers and leaves -/
theorem pm_pi_pi {σ : pm_S} {k j : Nat} {x y : Int32} : pm_pi (pm_pi σ k j x) k j y = pm_pi σ k j y := by
  unfold pm_pi
  congr 1
  funext a b
  by_cases h : a = k <;> by_cases h2 : b = j <;> simp [h, h2]
theorem pm_pr_pi {σ : pm_S} {k j q : Nat} {x : Int32} {f : Nat → Int32} : pm_pr (pm_pi σ k j x) q f = pm_pi (pm_pr σ q f) k j x := rfl
theorem pm_pr_pr {σ : pm_S} {q : Nat} {f h : Nat → Int32} : pm_pr (pm_pr σ q f) q h = pm_pr σ q h := by
  unfold pm_pr
  congr 2
  funext a
  by_cases e : a = q <;> simp [e]
theorem pm_r22 {σ : pm_S} {q : Nat} {f : Nat → Int32} : (pm_pr σ q f).2.2 q = f := by simp [pm_pr]
theorem pm_r1 {σ : pm_S} {k j : Nat} {x : Int32} : (pm_pi σ k j x).1 k j = x := by simp [pm_pi]
/-- four bytes of a number behind a text -/
def tx_b (x s : Int32) : Int32 := pm_nr 1 ((((x.toUInt32 >>> (s.toUInt32 &&& Int32.toUInt32 31)).toInt32 &&& 255).toUInt32 % 65536).toInt32)
def tx_m (x s : Int32) : Int32 := (x >>> (s &&& 31)) &&& 255
theorem d3_0 : decode prog_1_method_13_code 0 = .ok (.bipush 24, 2) := by decide +kernel
theorem d3_2 : decode prog_1_method_13_code 2 = .ok (.istore_n 2, 1) := by decide +kernel
theorem d3_3 : decode prog_1_method_13_code 3 = .ok (.iload_n 2, 1) := by decide +kernel
theorem d3_4 : decode prog_1_method_13_code 4 = .ok (.ifCond .lt 46, 3) := by decide +kernel
theorem d3_7 : decode prog_1_method_13_code 7 = .ok (.aload_n 0, 1) := by decide +kernel
theorem d3_8 : decode prog_1_method_13_code 8 = .ok (.getfield 57, 3) := by decide +kernel
theorem d3_11 : decode prog_1_method_13_code 11 = .ok (.sipush 8192, 3) := by decide +kernel
theorem d3_14 : decode prog_1_method_13_code 14 = .ok (.if_icmp .ge 30, 3) := by decide +kernel
theorem d3_17 : decode prog_1_method_13_code 17 = .ok (.aload_n 0, 1) := by decide +kernel
theorem d3_18 : decode prog_1_method_13_code 18 = .ok (.getfield 9, 3) := by decide +kernel
theorem d3_21 : decode prog_1_method_13_code 21 = .ok (.aload_n 0, 1) := by decide +kernel
theorem d3_22 : decode prog_1_method_13_code 22 = .ok (.getfield 57, 3) := by decide +kernel
theorem d3_25 : decode prog_1_method_13_code 25 = .ok (.iload_n 1, 1) := by decide +kernel
theorem d3_26 : decode prog_1_method_13_code 26 = .ok (.iload_n 2, 1) := by decide +kernel
theorem d3_27 : decode prog_1_method_13_code 27 = .ok (.iushr, 1) := by decide +kernel
theorem d3_28 : decode prog_1_method_13_code 28 = .ok (.sipush 255, 3) := by decide +kernel
theorem d3_31 : decode prog_1_method_13_code 31 = .ok (.iand, 1) := by decide +kernel
theorem d3_32 : decode prog_1_method_13_code 32 = .ok (.i2c, 1) := by decide +kernel
theorem d3_33 : decode prog_1_method_13_code 33 = .ok (.castore, 1) := by decide +kernel
theorem d3_34 : decode prog_1_method_13_code 34 = .ok (.aload_n 0, 1) := by decide +kernel
theorem d3_35 : decode prog_1_method_13_code 35 = .ok (.dup, 1) := by decide +kernel
theorem d3_36 : decode prog_1_method_13_code 36 = .ok (.getfield 57, 3) := by decide +kernel
theorem d3_39 : decode prog_1_method_13_code 39 = .ok (.iconst 1, 1) := by decide +kernel
theorem d3_40 : decode prog_1_method_13_code 40 = .ok (.iadd, 1) := by decide +kernel
theorem d3_41 : decode prog_1_method_13_code 41 = .ok (.putfield 57, 3) := by decide +kernel
theorem d3_44 : decode prog_1_method_13_code 44 = .ok (.iinc 2 (-8), 3) := by decide +kernel
theorem d3_47 : decode prog_1_method_13_code 47 = .ok (.goto (-44), 3) := by decide +kernel
theorem d3_50 : decode prog_1_method_13_code 50 = .ok (.return_, 1) := by decide +kernel
theorem m3 : pm_m 3 = some (⟨"TypeRules", "append", "(I)V"⟩, prog_1_method_13_code, 3, none, 0, 1, 1) := rfl
theorem ap_1 {d : Nat} {σ : pm_S} {Q : Option Value → pm_S → Prop} {x s s' : Int32} {n : Nat} (hn : n < 8192) (hl : σ.1 0 6 = nI n) (hs : 0 ≤ s) (hs' : s + Int32.ofInt (-8) = s') (k : pm_WP pm_Y0 (pm_call pm_Y0 d) 0 prog_1_method_13_code none Q 3 [.ref 0, .int x, .int s'] [] (pm_pi (pm_pr σ 11 (upd (σ.2.2 11) n (tx_b x s))) 0 6 (nI (n + 1)))) : pm_WP pm_Y0 (pm_call pm_Y0 d) 0 prog_1_method_13_code none Q 3 [.ref 0, .int x, .int s] [] σ := by
  have hin : vp_in (σ.1 0 6) 8192 := by rw [hl]; exact vp_in_nI hn (by decide)
  have hc : (σ.1 0 6).toNatClampNeg = n := by rw [hl]; exact nI_clamp (by omega)
  refine wq_l 4 d3_3 rfl rfl rfl rfl ?_
  refine wq_b 50 7 d3_4 rfl (by decide) rfl (fun c4 => absurd c4 (Int32.not_lt.mpr hs)) (fun c4 => ?_)
  refine wq_l 8 d3_7 rfl rfl rfl rfl ?_
  refine wq_gi (ci := 0) (j := 6) 11 d3_8 rfl rfl rfl rfl ?_
  refine wq_k 14 8192 d3_11 (by decide) rfl ?_
  refine wq_b 44 17 d3_14 rfl (by decide) rfl (fun c14 => absurd c14 (by rw [hl]; exact nI_ge (b := 8192) hn (by decide))) (fun c14 => ?_)
  refine wq_l 18 d3_17 rfl rfl rfl rfl ?_
  refine wq_gr (ci := 0) (j := 0) (q := 11) 21 d3_18 rfl rfl rfl rfl ?_
  refine wq_l 22 d3_21 rfl rfl rfl rfl ?_
  refine wq_gi (ci := 0) (j := 6) 25 d3_22 rfl rfl rfl rfl ?_
  refine wq_l 26 d3_25 rfl rfl rfl rfl ?_
  refine wq_l 27 d3_26 rfl rfl rfl rfl ?_
  refine wq_a 28 d3_27 rfl rfl ?_
  refine wq_k 31 255 d3_28 (by decide) rfl ?_
  refine wq_a 32 d3_31 rfl rfl ?_
  refine wq_a 33 d3_32 rfl rfl ?_
  refine wq_as 34 d3_33 rfl rfl rfl (hin) ?_
  refine wq_l 35 d3_34 rfl rfl rfl rfl ?_
  refine wq_a 36 d3_35 rfl rfl ?_
  refine wq_gi (ci := 0) (j := 6) 39 d3_36 rfl rfl rfl rfl ?_
  refine wq_k 40 1 d3_39 (by decide) rfl ?_
  refine wq_a 41 d3_40 rfl rfl ?_
  refine wq_pf (ci := 0) (j := 6) 44 d3_41 rfl rfl rfl ⟨rfl, rfl⟩ rfl ?_
  refine wq_i 47 d3_44 rfl rfl rfl ?_
  refine wq_g 3 d3_47 (by decide) ?_
  rw [hs', hc] at *
  have e : (pm_pr σ 11 (upd (σ.2.2 11) n (tx_b x s))).1 0 6 + 1 = nI (n + 1) := by rw [nI_succ, ← hl]; rfl
  rw [← e] at k
  exact k
theorem sp3 {d : Nat} {σ : pm_S} {Q : Option Value → pm_S → Prop} {x : Int32} {n : Nat} (hn : n + 4 ≤ 8192) (hl : σ.1 0 6 = nI n) (hQ : Q none (pm_pi (pm_pr σ 11 (upd (upd (upd (upd (σ.2.2 11) n (tx_b x 24)) (n + 1) (tx_b x 16)) (n + 2) (tx_b x 8)) (n + 3) (tx_b x 0))) 0 6 (nI (n + 4)))) : pm_call pm_Y0 (d + 1) 3 [.ref 0, .int x] σ Q := by
  refine wq_m m3 (Nat.le_of_ble_eq_true rfl) (by decide) rfl ?_
  refine wq_a 2 d3_0 rfl rfl ?_
  refine wq_s 3 d3_2 rfl rfl (Nat.le_of_ble_eq_true rfl) rfl rfl ?_
  refine ap_1 (s := 24) (s' := 16) (n := n) (by omega) hl (by decide) (by decide) ?_
  refine ap_1 (s := 16) (s' := 8) (n := n + 1) (by omega) pm_r1 (by decide) (by decide) ?_
  refine ap_1 (s := 8) (s' := 0) (n := n + 2) (by omega) pm_r1 (by decide) (by decide) ?_
  refine ap_1 (s := 0) (s' := -8) (n := n + 3) (by omega) pm_r1 (by decide) (by decide) ?_
  refine wq_l 4 d3_3 rfl rfl rfl rfl ?_
  refine wq_b 50 7 d3_4 rfl (by decide) rfl (fun _ => ?_) (fun c => absurd (by decide) c)
  refine wq_rv d3_50 ?_
  simp only [pm_pr_pi, pm_pr_pr, pm_pi_pi, show ∀ (τ : pm_S) (a b : Nat) (z : Int32), (pm_pi τ a b z).2.2 = τ.2.2 from fun _ _ _ _ => rfl, pm_r22]
  exact hQ
theorem d198_0 : decode prog_14_method_4_code 0 = .ok (.bipush 24, 2) := by decide +kernel
theorem d198_2 : decode prog_14_method_4_code 2 = .ok (.istore_n 2, 1) := by decide +kernel
theorem d198_3 : decode prog_14_method_4_code 3 = .ok (.iload_n 2, 1) := by decide +kernel
theorem d198_4 : decode prog_14_method_4_code 4 = .ok (.ifCond .lt 35, 3) := by decide +kernel
theorem d198_7 : decode prog_14_method_4_code 7 = .ok (.aload_n 0, 1) := by decide +kernel
theorem d198_8 : decode prog_14_method_4_code 8 = .ok (.getfield 7, 3) := by decide +kernel
theorem d198_11 : decode prog_14_method_4_code 11 = .ok (.aload_n 0, 1) := by decide +kernel
theorem d198_12 : decode prog_14_method_4_code 12 = .ok (.getfield 114, 3) := by decide +kernel
theorem d198_15 : decode prog_14_method_4_code 15 = .ok (.iload_n 1, 1) := by decide +kernel
theorem d198_16 : decode prog_14_method_4_code 16 = .ok (.iload_n 2, 1) := by decide +kernel
theorem d198_17 : decode prog_14_method_4_code 17 = .ok (.ishr, 1) := by decide +kernel
theorem d198_18 : decode prog_14_method_4_code 18 = .ok (.sipush 255, 3) := by decide +kernel
theorem d198_21 : decode prog_14_method_4_code 21 = .ok (.iand, 1) := by decide +kernel
theorem d198_22 : decode prog_14_method_4_code 22 = .ok (.iastore, 1) := by decide +kernel
theorem d198_23 : decode prog_14_method_4_code 23 = .ok (.aload_n 0, 1) := by decide +kernel
theorem d198_24 : decode prog_14_method_4_code 24 = .ok (.dup, 1) := by decide +kernel
theorem d198_25 : decode prog_14_method_4_code 25 = .ok (.getfield 114, 3) := by decide +kernel
theorem d198_28 : decode prog_14_method_4_code 28 = .ok (.iconst 1, 1) := by decide +kernel
theorem d198_29 : decode prog_14_method_4_code 29 = .ok (.iadd, 1) := by decide +kernel
theorem d198_30 : decode prog_14_method_4_code 30 = .ok (.putfield 114, 3) := by decide +kernel
theorem d198_33 : decode prog_14_method_4_code 33 = .ok (.iinc 2 (-8), 3) := by decide +kernel
theorem d198_36 : decode prog_14_method_4_code 36 = .ok (.goto (-33), 3) := by decide +kernel
theorem d198_39 : decode prog_14_method_4_code 39 = .ok (.return_, 1) := by decide +kernel
theorem m198 : pm_m 198 = some (⟨"TypeRulesModel", "put", "(I)V"⟩, prog_14_method_4_code, 3, none, 10, 1, 11) := rfl
theorem pt_1 {d : Nat} {σ : pm_S} {Q : Option Value → pm_S → Prop} {x s s' : Int32} {n : Nat} (hn : n < 8192) (hl : σ.1 10 1 = nI n) (hs : 0 ≤ s) (hs' : s + Int32.ofInt (-8) = s') (k : pm_WP pm_Y0 (pm_call pm_Y0 d) 10 prog_14_method_4_code none Q 3 [.ref 10, .int x, .int s'] [] (pm_pi (pm_pr σ 43 (upd (σ.2.2 43) n (tx_m x s))) 10 1 (nI (n + 1)))) : pm_WP pm_Y0 (pm_call pm_Y0 d) 10 prog_14_method_4_code none Q 3 [.ref 10, .int x, .int s] [] σ := by
  have hin : vp_in (σ.1 10 1) 8192 := by rw [hl]; exact vp_in_nI hn (by decide)
  have hc : (σ.1 10 1).toNatClampNeg = n := by rw [hl]; exact nI_clamp (by omega)
  refine wq_l 4 d198_3 rfl rfl rfl rfl ?_
  refine wq_b 39 7 d198_4 rfl (by decide) rfl (fun c4 => absurd c4 (Int32.not_lt.mpr hs)) (fun c4 => ?_)
  refine wq_l 8 d198_7 rfl rfl rfl rfl ?_
  refine wq_gr (ci := 10) (j := 0) (q := 43) 11 d198_8 rfl rfl rfl rfl ?_
  refine wq_l 12 d198_11 rfl rfl rfl rfl ?_
  refine wq_gi (ci := 10) (j := 1) 15 d198_12 rfl rfl rfl rfl ?_
  refine wq_l 16 d198_15 rfl rfl rfl rfl ?_
  refine wq_l 17 d198_16 rfl rfl rfl rfl ?_
  refine wq_a 18 d198_17 rfl rfl ?_
  refine wq_k 21 255 d198_18 (by decide) rfl ?_
  refine wq_a 22 d198_21 rfl rfl ?_
  refine wq_as 23 d198_22 rfl rfl rfl (hin) ?_
  refine wq_l 24 d198_23 rfl rfl rfl rfl ?_
  refine wq_a 25 d198_24 rfl rfl ?_
  refine wq_gi (ci := 10) (j := 1) 28 d198_25 rfl rfl rfl rfl ?_
  refine wq_k 29 1 d198_28 (by decide) rfl ?_
  refine wq_a 30 d198_29 rfl rfl ?_
  refine wq_pf (ci := 10) (j := 1) 33 d198_30 rfl rfl rfl ⟨rfl, rfl⟩ rfl ?_
  refine wq_i 36 d198_33 rfl rfl rfl ?_
  refine wq_g 3 d198_36 (by decide) ?_
  rw [hs', hc] at *
  have e : (pm_pr σ 43 (upd (σ.2.2 43) n (tx_m x s))).1 10 1 + 1 = nI (n + 1) := by rw [nI_succ, ← hl]; rfl
  rw [← e] at k
  exact k
theorem sp198 {d : Nat} {σ : pm_S} {Q : Option Value → pm_S → Prop} {x : Int32} {n : Nat} (hn : n + 4 ≤ 8192) (hl : σ.1 10 1 = nI n) (hQ : Q none (pm_pi (pm_pr σ 43 (upd (upd (upd (upd (σ.2.2 43) n (tx_m x 24)) (n + 1) (tx_m x 16)) (n + 2) (tx_m x 8)) (n + 3) (tx_m x 0))) 10 1 (nI (n + 4)))) : pm_call pm_Y0 (d + 1) 198 [.ref 10, .int x] σ Q := by
  refine wq_m m198 (Nat.le_of_ble_eq_true rfl) (by decide) rfl ?_
  refine wq_a 2 d198_0 rfl rfl ?_
  refine wq_s 3 d198_2 rfl rfl (Nat.le_of_ble_eq_true rfl) rfl rfl ?_
  refine pt_1 (s := 24) (s' := 16) (n := n) (by omega) hl (by decide) (by decide) ?_
  refine pt_1 (s := 16) (s' := 8) (n := n + 1) (by omega) pm_r1 (by decide) (by decide) ?_
  refine pt_1 (s := 8) (s' := 0) (n := n + 2) (by omega) pm_r1 (by decide) (by decide) ?_
  refine pt_1 (s := 0) (s' := -8) (n := n + 3) (by omega) pm_r1 (by decide) (by decide) ?_
  refine wq_l 4 d198_3 rfl rfl rfl rfl ?_
  refine wq_b 39 7 d198_4 rfl (by decide) rfl (fun _ => ?_) (fun c => absurd (by decide) c)
  refine wq_rv d198_39 ?_
  simp only [pm_pr_pi, pm_pr_pr, pm_pi_pi, show ∀ (τ : pm_S) (a b : Nat) (z : Int32), (pm_pi τ a b z).2.2 = τ.2.2 from fun _ _ _ _ => rfl, pm_r22]
  exact hQ
/-- twenty bytes behind a text -/
def tx_4 (b : Int32 → Int32 → Int32) (f : Nat → Int32) (n : Nat) (x : Int32) : Nat → Int32 := upd (upd (upd (upd f n (b x 24)) (n + 1) (b x 16)) (n + 2) (b x 8)) (n + 3) (b x 0)
def tx_20 (b : Int32 → Int32 → Int32) (f : Nat → Int32) (n : Nat) (x1 x2 x3 x4 x5 : Int32) : Nat → Int32 := tx_4 b (tx_4 b (tx_4 b (tx_4 b (tx_4 b f n x1) (n + 4) x2) (n + 8) x3) (n + 12) x4) (n + 16) x5
theorem pm_pi22 {τ : pm_S} {a b : Nat} {z : Int32} : (pm_pi τ a b z).2.2 = τ.2.2 := rfl
theorem d2_0 : decode prog_1_method_3_code 0 = .ok (.aload_n 0, 1) := by decide +kernel
theorem d2_1 : decode prog_1_method_3_code 1 = .ok (.getfield 57, 3) := by decide +kernel
theorem d2_4 : decode prog_1_method_3_code 4 = .ok (.bipush 20, 2) := by decide +kernel
theorem d2_6 : decode prog_1_method_3_code 6 = .ok (.iadd, 1) := by decide +kernel
theorem d2_7 : decode prog_1_method_3_code 7 = .ok (.sipush 8192, 3) := by decide +kernel
theorem d2_10 : decode prog_1_method_3_code 10 = .ok (.if_icmp .le 5, 3) := by decide +kernel
theorem d2_13 : decode prog_1_method_3_code 13 = .ok (.iconst (-1), 1) := by decide +kernel
theorem d2_14 : decode prog_1_method_3_code 14 = .ok (.ireturn, 1) := by decide +kernel
theorem d2_15 : decode prog_1_method_3_code 15 = .ok (.aload_n 0, 1) := by decide +kernel
theorem d2_16 : decode prog_1_method_3_code 16 = .ok (.iload_n 1, 1) := by decide +kernel
theorem d2_17 : decode prog_1_method_3_code 17 = .ok (.invokevirtual 76, 3) := by decide +kernel
theorem d2_20 : decode prog_1_method_3_code 20 = .ok (.aload_n 0, 1) := by decide +kernel
theorem d2_21 : decode prog_1_method_3_code 21 = .ok (.iload_n 2, 1) := by decide +kernel
theorem d2_22 : decode prog_1_method_3_code 22 = .ok (.invokevirtual 76, 3) := by decide +kernel
theorem d2_25 : decode prog_1_method_3_code 25 = .ok (.aload_n 0, 1) := by decide +kernel
theorem d2_26 : decode prog_1_method_3_code 26 = .ok (.iload_n 3, 1) := by decide +kernel
theorem d2_27 : decode prog_1_method_3_code 27 = .ok (.invokevirtual 76, 3) := by decide +kernel
theorem d2_30 : decode prog_1_method_3_code 30 = .ok (.aload_n 0, 1) := by decide +kernel
theorem d2_31 : decode prog_1_method_3_code 31 = .ok (.iload 4, 2) := by decide +kernel
theorem d2_33 : decode prog_1_method_3_code 33 = .ok (.invokevirtual 76, 3) := by decide +kernel
theorem d2_36 : decode prog_1_method_3_code 36 = .ok (.aload_n 0, 1) := by decide +kernel
theorem d2_37 : decode prog_1_method_3_code 37 = .ok (.iload 5, 2) := by decide +kernel
theorem d2_39 : decode prog_1_method_3_code 39 = .ok (.invokevirtual 76, 3) := by decide +kernel
theorem d2_42 : decode prog_1_method_3_code 42 = .ok (.aload_n 0, 1) := by decide +kernel
theorem d2_43 : decode prog_1_method_3_code 43 = .ok (.getfield 57, 3) := by decide +kernel
theorem d2_46 : decode prog_1_method_3_code 46 = .ok (.ireturn, 1) := by decide +kernel
theorem m2 : pm_m 2 = some (⟨"TypeRules", "feed", "(IIIII)I"⟩, prog_1_method_3_code, 6, (some FieldType.int), 0, 5, 1) := rfl
theorem sp2_no {d : Nat} {σ : pm_S} {Q : Option Value → pm_S → Prop} {x1 x2 x3 x4 x5 : Int32} {n : Nat} (hn : 8192 < n + 20) (hn2 : n ≤ 8192) (hl : σ.1 0 6 = nI n) (hQ : Q (some (.int (-1))) σ) : pm_call pm_Y0 (d + 2) 2 [.ref 0, .int x1, .int x2, .int x3, .int x4, .int x5] σ Q := by
  refine wq_m m2 (Nat.le_of_ble_eq_true rfl) (by decide) rfl ?_
  refine wq_l 1 d2_0 rfl rfl rfl rfl ?_
  refine wq_gi (ci := 0) (j := 6) 4 d2_1 rfl rfl rfl rfl ?_
  refine wq_k 6 20 d2_4 (by decide) rfl ?_
  refine wq_a 7 d2_6 rfl rfl ?_
  refine wq_k 10 8192 d2_7 (by decide) rfl ?_
  refine wq_b 15 13 d2_10 rfl (by decide) rfl (fun c10 => absurd c10 (by rw [hl, show (20 : Int32) = nI 20 from rfl, nI_add]; exact nI_ge (b := n + 20) hn (by omega))) (fun c10 => ?_)
  refine wq_k 14 (-1) d2_13 (by decide) rfl ?_
  refine wq_ri d2_14 (rfl) ?_
  exact hQ
theorem sp2_ok {d : Nat} {σ : pm_S} {Q : Option Value → pm_S → Prop} {x1 x2 x3 x4 x5 : Int32} {n : Nat} (hn : n + 20 ≤ 8192) (hl : σ.1 0 6 = nI n) (hQ : Q (some (.int (nI (n + 20)))) (pm_pi (pm_pr σ 11 (tx_20 tx_b (σ.2.2 11) n x1 x2 x3 x4 x5)) 0 6 (nI (n + 20)))) : pm_call pm_Y0 (d + 2) 2 [.ref 0, .int x1, .int x2, .int x3, .int x4, .int x5] σ Q := by
  refine wq_m m2 (Nat.le_of_ble_eq_true rfl) (by decide) rfl ?_
  refine wq_l 1 d2_0 rfl rfl rfl rfl ?_
  refine wq_gi (ci := 0) (j := 6) 4 d2_1 rfl rfl rfl rfl ?_
  refine wq_k 6 20 d2_4 (by decide) rfl ?_
  refine wq_a 7 d2_6 rfl rfl ?_
  refine wq_k 10 8192 d2_7 (by decide) rfl ?_
  refine wq_b 15 13 d2_10 rfl (by decide) rfl (fun c10 => ?_) (fun c10 => absurd (by rw [hl, show (20 : Int32) = nI 20 from rfl, nI_add]; exact nI_le (b := 8192) hn (by decide)) c10)
  refine wq_l 16 d2_15 rfl rfl rfl rfl ?_
  refine wq_l 17 d2_16 rfl rfl rfl rfl ?_
  refine wq_v 20 [_] d2_17 rfl rfl m3 rfl rfl (by decide) rfl (sp3 (n := n + 0) (by omega) (hl) ?_)
  refine wq_l 21 d2_20 rfl rfl rfl rfl ?_
  refine wq_l 22 d2_21 rfl rfl rfl rfl ?_
  refine wq_v 25 [_] d2_22 rfl rfl m3 rfl rfl (by decide) rfl (sp3 (n := n + 4) (by omega) (pm_r1) ?_)
  refine wq_l 26 d2_25 rfl rfl rfl rfl ?_
  refine wq_l 27 d2_26 rfl rfl rfl rfl ?_
  refine wq_v 30 [_] d2_27 rfl rfl m3 rfl rfl (by decide) rfl (sp3 (n := n + 8) (by omega) (pm_r1) ?_)
  refine wq_l 31 d2_30 rfl rfl rfl rfl ?_
  refine wq_l 33 d2_31 rfl rfl rfl rfl ?_
  refine wq_v 36 [_] d2_33 rfl rfl m3 rfl rfl (by decide) rfl (sp3 (n := n + 12) (by omega) (pm_r1) ?_)
  refine wq_l 37 d2_36 rfl rfl rfl rfl ?_
  refine wq_l 39 d2_37 rfl rfl rfl rfl ?_
  refine wq_v 42 [_] d2_39 rfl rfl m3 rfl rfl (by decide) rfl (sp3 (n := n + 16) (by omega) (pm_r1) ?_)
  refine wq_l 43 d2_42 rfl rfl rfl rfl ?_
  refine wq_gi (ci := 0) (j := 6) 46 d2_43 rfl rfl rfl rfl ?_
  refine wq_ri d2_46 (rfl) ?_
  simp only [pm_pr_pi, pm_pr_pr, pm_pi_pi, pm_pi22, pm_r22, pm_r1, Nat.add_assoc, Nat.reduceAdd, Nat.add_zero]
  exact hQ
theorem d197_0 : decode prog_14_method_5_code 0 = .ok (.aload_n 0, 1) := by decide +kernel
theorem d197_1 : decode prog_14_method_5_code 1 = .ok (.getfield 114, 3) := by decide +kernel
theorem d197_4 : decode prog_14_method_5_code 4 = .ok (.bipush 20, 2) := by decide +kernel
theorem d197_6 : decode prog_14_method_5_code 6 = .ok (.iadd, 1) := by decide +kernel
theorem d197_7 : decode prog_14_method_5_code 7 = .ok (.sipush 8192, 3) := by decide +kernel
theorem d197_10 : decode prog_14_method_5_code 10 = .ok (.if_icmp .le 5, 3) := by decide +kernel
theorem d197_13 : decode prog_14_method_5_code 13 = .ok (.iconst (-1), 1) := by decide +kernel
theorem d197_14 : decode prog_14_method_5_code 14 = .ok (.ireturn, 1) := by decide +kernel
theorem d197_15 : decode prog_14_method_5_code 15 = .ok (.aload_n 0, 1) := by decide +kernel
theorem d197_16 : decode prog_14_method_5_code 16 = .ok (.iload_n 1, 1) := by decide +kernel
theorem d197_17 : decode prog_14_method_5_code 17 = .ok (.invokevirtual 117, 3) := by decide +kernel
theorem d197_20 : decode prog_14_method_5_code 20 = .ok (.aload_n 0, 1) := by decide +kernel
theorem d197_21 : decode prog_14_method_5_code 21 = .ok (.iload_n 2, 1) := by decide +kernel
theorem d197_22 : decode prog_14_method_5_code 22 = .ok (.invokevirtual 117, 3) := by decide +kernel
theorem d197_25 : decode prog_14_method_5_code 25 = .ok (.aload_n 0, 1) := by decide +kernel
theorem d197_26 : decode prog_14_method_5_code 26 = .ok (.iload_n 3, 1) := by decide +kernel
theorem d197_27 : decode prog_14_method_5_code 27 = .ok (.invokevirtual 117, 3) := by decide +kernel
theorem d197_30 : decode prog_14_method_5_code 30 = .ok (.aload_n 0, 1) := by decide +kernel
theorem d197_31 : decode prog_14_method_5_code 31 = .ok (.iload 4, 2) := by decide +kernel
theorem d197_33 : decode prog_14_method_5_code 33 = .ok (.invokevirtual 117, 3) := by decide +kernel
theorem d197_36 : decode prog_14_method_5_code 36 = .ok (.aload_n 0, 1) := by decide +kernel
theorem d197_37 : decode prog_14_method_5_code 37 = .ok (.iload 5, 2) := by decide +kernel
theorem d197_39 : decode prog_14_method_5_code 39 = .ok (.invokevirtual 117, 3) := by decide +kernel
theorem d197_42 : decode prog_14_method_5_code 42 = .ok (.aload_n 0, 1) := by decide +kernel
theorem d197_43 : decode prog_14_method_5_code 43 = .ok (.getfield 114, 3) := by decide +kernel
theorem d197_46 : decode prog_14_method_5_code 46 = .ok (.ireturn, 1) := by decide +kernel
theorem m197 : pm_m 197 = some (⟨"TypeRulesModel", "feed", "(IIIII)I"⟩, prog_14_method_5_code, 6, (some FieldType.int), 10, 5, 11) := rfl
theorem sp197_no {d : Nat} {σ : pm_S} {Q : Option Value → pm_S → Prop} {x1 x2 x3 x4 x5 : Int32} {n : Nat} (hn : 8192 < n + 20) (hn2 : n ≤ 8192) (hl : σ.1 10 1 = nI n) (hQ : Q (some (.int (-1))) σ) : pm_call pm_Y0 (d + 2) 197 [.ref 10, .int x1, .int x2, .int x3, .int x4, .int x5] σ Q := by
  refine wq_m m197 (Nat.le_of_ble_eq_true rfl) (by decide) rfl ?_
  refine wq_l 1 d197_0 rfl rfl rfl rfl ?_
  refine wq_gi (ci := 10) (j := 1) 4 d197_1 rfl rfl rfl rfl ?_
  refine wq_k 6 20 d197_4 (by decide) rfl ?_
  refine wq_a 7 d197_6 rfl rfl ?_
  refine wq_k 10 8192 d197_7 (by decide) rfl ?_
  refine wq_b 15 13 d197_10 rfl (by decide) rfl (fun c10 => absurd c10 (by rw [hl, show (20 : Int32) = nI 20 from rfl, nI_add]; exact nI_ge (b := n + 20) hn (by omega))) (fun c10 => ?_)
  refine wq_k 14 (-1) d197_13 (by decide) rfl ?_
  refine wq_ri d197_14 (rfl) ?_
  exact hQ
theorem sp197_ok {d : Nat} {σ : pm_S} {Q : Option Value → pm_S → Prop} {x1 x2 x3 x4 x5 : Int32} {n : Nat} (hn : n + 20 ≤ 8192) (hl : σ.1 10 1 = nI n) (hQ : Q (some (.int (nI (n + 20)))) (pm_pi (pm_pr σ 43 (tx_20 tx_m (σ.2.2 43) n x1 x2 x3 x4 x5)) 10 1 (nI (n + 20)))) : pm_call pm_Y0 (d + 2) 197 [.ref 10, .int x1, .int x2, .int x3, .int x4, .int x5] σ Q := by
  refine wq_m m197 (Nat.le_of_ble_eq_true rfl) (by decide) rfl ?_
  refine wq_l 1 d197_0 rfl rfl rfl rfl ?_
  refine wq_gi (ci := 10) (j := 1) 4 d197_1 rfl rfl rfl rfl ?_
  refine wq_k 6 20 d197_4 (by decide) rfl ?_
  refine wq_a 7 d197_6 rfl rfl ?_
  refine wq_k 10 8192 d197_7 (by decide) rfl ?_
  refine wq_b 15 13 d197_10 rfl (by decide) rfl (fun c10 => ?_) (fun c10 => absurd (by rw [hl, show (20 : Int32) = nI 20 from rfl, nI_add]; exact nI_le (b := 8192) hn (by decide)) c10)
  refine wq_l 16 d197_15 rfl rfl rfl rfl ?_
  refine wq_l 17 d197_16 rfl rfl rfl rfl ?_
  refine wq_v 20 [_] d197_17 rfl rfl m198 rfl rfl (by decide) rfl (sp198 (n := n + 0) (by omega) (hl) ?_)
  refine wq_l 21 d197_20 rfl rfl rfl rfl ?_
  refine wq_l 22 d197_21 rfl rfl rfl rfl ?_
  refine wq_v 25 [_] d197_22 rfl rfl m198 rfl rfl (by decide) rfl (sp198 (n := n + 4) (by omega) (pm_r1) ?_)
  refine wq_l 26 d197_25 rfl rfl rfl rfl ?_
  refine wq_l 27 d197_26 rfl rfl rfl rfl ?_
  refine wq_v 30 [_] d197_27 rfl rfl m198 rfl rfl (by decide) rfl (sp198 (n := n + 8) (by omega) (pm_r1) ?_)
  refine wq_l 31 d197_30 rfl rfl rfl rfl ?_
  refine wq_l 33 d197_31 rfl rfl rfl rfl ?_
  refine wq_v 36 [_] d197_33 rfl rfl m198 rfl rfl (by decide) rfl (sp198 (n := n + 12) (by omega) (pm_r1) ?_)
  refine wq_l 37 d197_36 rfl rfl rfl rfl ?_
  refine wq_l 39 d197_37 rfl rfl rfl rfl ?_
  refine wq_v 42 [_] d197_39 rfl rfl m198 rfl rfl (by decide) rfl (sp198 (n := n + 16) (by omega) (pm_r1) ?_)
  refine wq_l 43 d197_42 rfl rfl rfl rfl ?_
  refine wq_gi (ci := 10) (j := 1) 46 d197_43 rfl rfl rfl rfl ?_
  refine wq_ri d197_46 (rfl) ?_
  simp only [pm_pr_pi, pm_pr_pr, pm_pi_pi, pm_pi22, pm_r22, pm_r1, Nat.add_assoc, Nat.reduceAdd, Nat.add_zero]
  exact hQ
theorem d4_0 : decode prog_1_method_4_code 0 = .ok (.iload_n 1, 1) := by decide +kernel
theorem d4_1 : decode prog_1_method_4_code 1 = .ok (.ifCond .lt 18, 3) := by decide +kernel
theorem d4_4 : decode prog_1_method_4_code 4 = .ok (.iload_n 1, 1) := by decide +kernel
theorem d4_5 : decode prog_1_method_4_code 5 = .ok (.bipush 20, 2) := by decide +kernel
theorem d4_7 : decode prog_1_method_4_code 7 = .ok (.if_icmp .gt 12, 3) := by decide +kernel
theorem d4_10 : decode prog_1_method_4_code 10 = .ok (.aload_n 0, 1) := by decide +kernel
theorem d4_11 : decode prog_1_method_4_code 11 = .ok (.getfield 57, 3) := by decide +kernel
theorem d4_14 : decode prog_1_method_4_code 14 = .ok (.bipush 20, 2) := by decide +kernel
theorem d4_16 : decode prog_1_method_4_code 16 = .ok (.if_icmp .ge 5, 3) := by decide +kernel
theorem d4_19 : decode prog_1_method_4_code 19 = .ok (.iconst (-1), 1) := by decide +kernel
theorem d4_20 : decode prog_1_method_4_code 20 = .ok (.ireturn, 1) := by decide +kernel
theorem d4_21 : decode prog_1_method_4_code 21 = .ok (.aload_n 0, 1) := by decide +kernel
theorem d4_22 : decode prog_1_method_4_code 22 = .ok (.aload_n 0, 1) := by decide +kernel
theorem d4_23 : decode prog_1_method_4_code 23 = .ok (.getfield 57, 3) := by decide +kernel
theorem d4_26 : decode prog_1_method_4_code 26 = .ok (.bipush 20, 2) := by decide +kernel
theorem d4_28 : decode prog_1_method_4_code 28 = .ok (.isub, 1) := by decide +kernel
theorem d4_29 : decode prog_1_method_4_code 29 = .ok (.iload_n 1, 1) := by decide +kernel
theorem d4_30 : decode prog_1_method_4_code 30 = .ok (.iadd, 1) := by decide +kernel
theorem d4_31 : decode prog_1_method_4_code 31 = .ok (.putfield 57, 3) := by decide +kernel
theorem d4_34 : decode prog_1_method_4_code 34 = .ok (.aload_n 0, 1) := by decide +kernel
theorem d4_35 : decode prog_1_method_4_code 35 = .ok (.getfield 57, 3) := by decide +kernel
theorem d4_38 : decode prog_1_method_4_code 38 = .ok (.ireturn, 1) := by decide +kernel
theorem m4 : pm_m 4 = some (⟨"TypeRules", "end", "(I)I"⟩, prog_1_method_4_code, 2, (some FieldType.int), 0, 1, 1) := rfl
theorem sp4 {d : Nat} {σ : pm_S} {Q : Option Value → pm_S → Prop} {x : Int32} (hn : (x < 0 ∨ 20 < x ∨ ¬ 20 ≤ σ.1 0 6) → Q (some (.int (-1))) σ) (hy : ¬ x < 0 → ¬ 20 < x → 20 ≤ σ.1 0 6 → Q (some (.int (σ.1 0 6 - 20 + x))) (pm_pi σ 0 6 (σ.1 0 6 - 20 + x))) : pm_call pm_Y0 (d + 1) 4 [.ref 0, .int x] σ Q := by
  refine wq_m m4 (Nat.le_of_ble_eq_true rfl) (by decide) rfl ?_
  refine wq_l 1 d4_0 rfl rfl rfl rfl ?_
  refine wq_b 19 4 d4_1 rfl (by decide) rfl (fun c1 => ?_) (fun c1 => ?_)
  · -- pc 19
    refine wq_k 20 (-1) d4_19 (by decide) rfl ?_
    refine wq_ri d4_20 (rfl) ?_
    first | exact hn (Or.inl (by assumption)) | exact hn (Or.inr (Or.inl (by assumption))) | exact hn (Or.inr (Or.inr (by assumption))) | exact hy (by assumption) (by assumption) (by assumption)
  · -- pc 4
    refine wq_l 5 d4_4 rfl rfl rfl rfl ?_
    refine wq_k 7 20 d4_5 (by decide) rfl ?_
    refine wq_b 19 10 d4_7 rfl (by decide) rfl (fun c7 => ?_) (fun c7 => ?_)
    · -- pc 19
      refine wq_k 20 (-1) d4_19 (by decide) rfl ?_
      refine wq_ri d4_20 (rfl) ?_
      first | exact hn (Or.inl (by assumption)) | exact hn (Or.inr (Or.inl (by assumption))) | exact hn (Or.inr (Or.inr (by assumption))) | exact hy (by assumption) (by assumption) (by assumption)
    · -- pc 10
      refine wq_l 11 d4_10 rfl rfl rfl rfl ?_
      refine wq_gi (ci := 0) (j := 6) 14 d4_11 rfl rfl rfl rfl ?_
      refine wq_k 16 20 d4_14 (by decide) rfl ?_
      refine wq_b 21 19 d4_16 rfl (by decide) rfl (fun c16 => ?_) (fun c16 => ?_)
      · -- pc 21
        refine wq_l 22 d4_21 rfl rfl rfl rfl ?_
        refine wq_l 23 d4_22 rfl rfl rfl rfl ?_
        refine wq_gi (ci := 0) (j := 6) 26 d4_23 rfl rfl rfl rfl ?_
        refine wq_k 28 20 d4_26 (by decide) rfl ?_
        refine wq_a 29 d4_28 rfl rfl ?_
        refine wq_l 30 d4_29 rfl rfl rfl rfl ?_
        refine wq_a 31 d4_30 rfl rfl ?_
        refine wq_pf (ci := 0) (j := 6) 34 d4_31 rfl rfl rfl ⟨rfl, rfl⟩ rfl ?_
        refine wq_l 35 d4_34 rfl rfl rfl rfl ?_
        refine wq_gi (ci := 0) (j := 6) 38 d4_35 rfl rfl rfl rfl ?_
        refine wq_ri d4_38 (rfl) ?_
        first | exact hn (Or.inl (by assumption)) | exact hn (Or.inr (Or.inl (by assumption))) | exact hn (Or.inr (Or.inr (by assumption))) | exact hy (by assumption) (by assumption) (by assumption)
      · -- pc 19
        refine wq_k 20 (-1) d4_19 (by decide) rfl ?_
        refine wq_ri d4_20 (rfl) ?_
        first | exact hn (Or.inl (by assumption)) | exact hn (Or.inr (Or.inl (by assumption))) | exact hn (Or.inr (Or.inr (by assumption))) | exact hy (by assumption) (by assumption) (by assumption)
theorem d199_0 : decode prog_14_method_6_code 0 = .ok (.iload_n 1, 1) := by decide +kernel
theorem d199_1 : decode prog_14_method_6_code 1 = .ok (.ifCond .lt 18, 3) := by decide +kernel
theorem d199_4 : decode prog_14_method_6_code 4 = .ok (.iload_n 1, 1) := by decide +kernel
theorem d199_5 : decode prog_14_method_6_code 5 = .ok (.bipush 20, 2) := by decide +kernel
theorem d199_7 : decode prog_14_method_6_code 7 = .ok (.if_icmp .gt 12, 3) := by decide +kernel
theorem d199_10 : decode prog_14_method_6_code 10 = .ok (.aload_n 0, 1) := by decide +kernel
theorem d199_11 : decode prog_14_method_6_code 11 = .ok (.getfield 114, 3) := by decide +kernel
theorem d199_14 : decode prog_14_method_6_code 14 = .ok (.bipush 20, 2) := by decide +kernel
theorem d199_16 : decode prog_14_method_6_code 16 = .ok (.if_icmp .ge 5, 3) := by decide +kernel
theorem d199_19 : decode prog_14_method_6_code 19 = .ok (.iconst (-1), 1) := by decide +kernel
theorem d199_20 : decode prog_14_method_6_code 20 = .ok (.ireturn, 1) := by decide +kernel
theorem d199_21 : decode prog_14_method_6_code 21 = .ok (.aload_n 0, 1) := by decide +kernel
theorem d199_22 : decode prog_14_method_6_code 22 = .ok (.aload_n 0, 1) := by decide +kernel
theorem d199_23 : decode prog_14_method_6_code 23 = .ok (.getfield 114, 3) := by decide +kernel
theorem d199_26 : decode prog_14_method_6_code 26 = .ok (.bipush 20, 2) := by decide +kernel
theorem d199_28 : decode prog_14_method_6_code 28 = .ok (.isub, 1) := by decide +kernel
theorem d199_29 : decode prog_14_method_6_code 29 = .ok (.iload_n 1, 1) := by decide +kernel
theorem d199_30 : decode prog_14_method_6_code 30 = .ok (.iadd, 1) := by decide +kernel
theorem d199_31 : decode prog_14_method_6_code 31 = .ok (.putfield 114, 3) := by decide +kernel
theorem d199_34 : decode prog_14_method_6_code 34 = .ok (.aload_n 0, 1) := by decide +kernel
theorem d199_35 : decode prog_14_method_6_code 35 = .ok (.getfield 114, 3) := by decide +kernel
theorem d199_38 : decode prog_14_method_6_code 38 = .ok (.ireturn, 1) := by decide +kernel
theorem m199 : pm_m 199 = some (⟨"TypeRulesModel", "end", "(I)I"⟩, prog_14_method_6_code, 2, (some FieldType.int), 10, 1, 11) := rfl
theorem sp199 {d : Nat} {σ : pm_S} {Q : Option Value → pm_S → Prop} {x : Int32} (hn : (x < 0 ∨ 20 < x ∨ ¬ 20 ≤ σ.1 10 1) → Q (some (.int (-1))) σ) (hy : ¬ x < 0 → ¬ 20 < x → 20 ≤ σ.1 10 1 → Q (some (.int (σ.1 10 1 - 20 + x))) (pm_pi σ 10 1 (σ.1 10 1 - 20 + x))) : pm_call pm_Y0 (d + 1) 199 [.ref 10, .int x] σ Q := by
  refine wq_m m199 (Nat.le_of_ble_eq_true rfl) (by decide) rfl ?_
  refine wq_l 1 d199_0 rfl rfl rfl rfl ?_
  refine wq_b 19 4 d199_1 rfl (by decide) rfl (fun c1 => ?_) (fun c1 => ?_)
  · -- pc 19
    refine wq_k 20 (-1) d199_19 (by decide) rfl ?_
    refine wq_ri d199_20 (rfl) ?_
    first | exact hn (Or.inl (by assumption)) | exact hn (Or.inr (Or.inl (by assumption))) | exact hn (Or.inr (Or.inr (by assumption))) | exact hy (by assumption) (by assumption) (by assumption)
  · -- pc 4
    refine wq_l 5 d199_4 rfl rfl rfl rfl ?_
    refine wq_k 7 20 d199_5 (by decide) rfl ?_
    refine wq_b 19 10 d199_7 rfl (by decide) rfl (fun c7 => ?_) (fun c7 => ?_)
    · -- pc 19
      refine wq_k 20 (-1) d199_19 (by decide) rfl ?_
      refine wq_ri d199_20 (rfl) ?_
      first | exact hn (Or.inl (by assumption)) | exact hn (Or.inr (Or.inl (by assumption))) | exact hn (Or.inr (Or.inr (by assumption))) | exact hy (by assumption) (by assumption) (by assumption)
    · -- pc 10
      refine wq_l 11 d199_10 rfl rfl rfl rfl ?_
      refine wq_gi (ci := 10) (j := 1) 14 d199_11 rfl rfl rfl rfl ?_
      refine wq_k 16 20 d199_14 (by decide) rfl ?_
      refine wq_b 21 19 d199_16 rfl (by decide) rfl (fun c16 => ?_) (fun c16 => ?_)
      · -- pc 21
        refine wq_l 22 d199_21 rfl rfl rfl rfl ?_
        refine wq_l 23 d199_22 rfl rfl rfl rfl ?_
        refine wq_gi (ci := 10) (j := 1) 26 d199_23 rfl rfl rfl rfl ?_
        refine wq_k 28 20 d199_26 (by decide) rfl ?_
        refine wq_a 29 d199_28 rfl rfl ?_
        refine wq_l 30 d199_29 rfl rfl rfl rfl ?_
        refine wq_a 31 d199_30 rfl rfl ?_
        refine wq_pf (ci := 10) (j := 1) 34 d199_31 rfl rfl rfl ⟨rfl, rfl⟩ rfl ?_
        refine wq_l 35 d199_34 rfl rfl rfl rfl ?_
        refine wq_gi (ci := 10) (j := 1) 38 d199_35 rfl rfl rfl rfl ?_
        refine wq_ri d199_38 (rfl) ?_
        first | exact hn (Or.inl (by assumption)) | exact hn (Or.inr (Or.inl (by assumption))) | exact hn (Or.inr (Or.inr (by assumption))) | exact hy (by assumption) (by assumption) (by assumption)
      · -- pc 19
        refine wq_k 20 (-1) d199_19 (by decide) rfl ?_
        refine wq_ri d199_20 (rfl) ?_
        first | exact hn (Or.inl (by assumption)) | exact hn (Or.inr (Or.inl (by assumption))) | exact hn (Or.inr (Or.inr (by assumption))) | exact hy (by assumption) (by assumption) (by assumption)
