/-! OUT OF A GROWING WORLD INTO THE PURE MACHINE, within one method -/
theorem cg_lh {ad : Nat → Nat} {ls : Array Slot} {L : List Value} (h : pm_lh (fun q => q) ls (L.map (pm_tau ad))) : pm_lh ad ls L := by
  refine ⟨by have := h.1; rwa [List.length_map] at this, h.2.1, fun i v hi hv => ?_⟩
  have h1 : (L.map (pm_tau ad))[i]? = some (pm_tau ad v) := by rw [List.getElem?_map, hi]; rfl
  have h2 := h.2.2 i (pm_tau ad v) h1 (fun q => hv (by cases v <;> first | exact q | cases q))
  rwa [cg_tau] at h2
theorem pm_X_ad {ad sd : Nat → Nat} (had : ∀ k, 1000 ≤ k → ad k = sd k) {A : Nat → Prop} {U : State} {H : Heap} (h : pm_X sd A U H) : pm_X ad A U H := by
  have e1 : (fun j => ad (1100 + j)) = (fun j => sd (1100 + j)) := funext fun j => had _ (by omega)
  have e2 : (fun j => ad (1200 + j)) = (fun j => sd (1200 + j)) := funext fun j => had _ (by omega)
  refine ⟨fun j f C n d q1 q2 => ?_, ?_, h.2.2.1, fun o idx j q => ?_⟩
  · rw [had (1000 + j) (by omega)]; exact h.1 j f C n d q1 q2
  · rw [e1, e2]; exact h.2.1
  · rw [had (1100 + j) (by omega)]; exact h.2.2.2 o idx j q
theorem cg_pm {p : Program} {l : Launch} {e : Env} {R : Room} {s : State} {m : MethodId} {args : Array Value} {below : List Frame} {meth : Method} {c : Code} {D : va_G} {cA : Nat → ClassId} {cc : ByteArray} {o pc : Nat} {ws ws0 : va_W} {kc ks sz : Nat} {L S : List Value} {N : Nat} {sd : Nat → Nat} {I : Prop} {post : Option Value → va_W → Prop} {rt : Option FieldType} {Y : pm_Y} {ad : Nat → Nat} {d : Nat} {L0 S0 : List Value} {σ : pm_S} {Q : Option Value → pm_S → Prop} (hY : Y.all pm_ckY = true) (had : ∀ k, 1000 ≤ k → ad k = sd k) (cx : cg_Cx sd I p R s m args meth c D cA (va_A ws0 sz) o cc N) (hlocks : meth.locks = false) (hr : meth.sig.returnType = rt) (hR : d + 1 ≤ R.frames ∧ 40 * d + 40 ≤ R.locals) (hk : kc ≤ R.cells ∧ ks ≤ R.slots) (hw : pm_WP Y (pm_call Y d) o cc rt Q pc L0 S0 σ) (hL : L0.map (pm_tau ad) = L) (hS0 : S0.map (pm_tau ad) = S) (hws : ws = pm_wd ad cA Y σ) (hQ : ∀ r σ', Q r σ' → ∃ (is : List Nat) (w1 : va_W), va_nd is = true ∧ is.map (fun i => (pm_wd ad cA Y σ')[i]?) = w1.map some ∧ post (r.map (pm_tau ad)) w1) : cg_Go p l e R s m args below meth c (MQ below (cm_Post D cA ws0 sz post) args s kc ks (va_A ws0 sz)) D (va_A ws0 sz) N kc ks ws pc L S := by
  subst hL; subst hS0; subst hws
  obtain ⟨c1, c2, c3, c4, c5, c6, c7, c8, c9⟩ := cx
  intro hN H locs ls hP hD hS hl
  have hX : pm_X ad (va_A ws0 sz) s s.heap := pm_X_ad had c9
  refine hw (pm_Go Y kc ks p l e R s m args below meth c (MQ below (cm_Post D cA ws0 sz post) args s kc ks (va_A ws0 sz)) D ad cA (va_A ws0 sz) N) ?_ (by rw [List.length_map] at hN; exact hN) H locs ls hP hD hS (cg_lh hl)
  intro pc L S σ' hT
  obtain ⟨i, n1, q1, q2⟩ := hT
  rcases q2 with q2 | q2 | q2 | q2
  · exact pm_G1_W c1 c2 q1 q2
  · exact pm_G2_W hY c1 c2 c4 c5 c6 q1 q2
  · refine pm_G3_W c1 c2 c4 c5 hr hlocks hX (fun r σ2 H locs hq hP hD hS t ht hw => ?_) q1 q2
    obtain ⟨is, w1, h1, h2, h3⟩ := hQ r σ2 hq
    refine ⟨⟨_, w1, rfl, h3, by rw [ht]; exact cg_sub hP h2, va_K.moved hw.alike c6, hD.sub is h1 h2⟩, hS.F ht⟩
  · exact pm_G4_W hY hk c1 c2 c3 c4 c5 c6 c7 hX hR (pm_sim hY l D ad cA d) q1 q2
/-- addresses by a list; statics by sd -/
def ad_L (l : List Nat) (sd : Nat → Nat) : Nat → Nat := fun k => if k < 1000 then l.getD k 0 else sd k
theorem ad_L_s {l : List Nat} {sd : Nat → Nat} (k : Nat) (h : 1000 ≤ k) : ad_L l sd k = sd k := by unfold ad_L; rw [if_neg (by omega)]
theorem sb_len9 : ∀ j, j < 9 → pm_sln j ≤ 100 := sb_len
theorem nl_Y6_ok {M : Nat} : (nl_Y6 M).all pm_ckY = true := rfl
theorem cm14 (l : Launch) (sd : Nat → Nat) (D : va_G) (cA : Nat → ClassId) {j : Nat} (hj : j < 9) (h0 q0 q1 q2 q3 : Nat) {σ : pm_S} {ns : List (List Nat)} (hI : nt_I σ 0 1 2 3 4 ns) (hc : ns.length ≤ 3800) (hf : ns.flatten.length ≤ 8600) (sz : Nat) : Met l ⟨"TypeRules$Names", "learn", "(Ljava/lang/String;)V"⟩ (pm_ws ⟨"TypeRules$Names", "learn", "(Ljava/lang/String;)V"⟩ prog_4_method_2_code 5 none) ({ frames := 5, cells := 1, slots := 100, locals := 400 }) (cn_Pre sd D cA (pm_wd (ad_L [h0, q0, q1, q2, q3] sd) cA nl_Y5 σ) sz [.ref h0, .ref (sd (1100 + j))]) (cm_Post D cA (pm_wd (ad_L [h0, q0, q1, q2, q3] sd) cA nl_Y5 σ) sz (fun v w => v = none ∧ ∃ σ', w = pm_wd (ad_L [h0, q0, q1, q2, q3] sd) cA nl_Y5 σ' ∧ nt_I σ' 0 1 2 3 4 (nl_F (nl_t j) (pm_sln j) (pm_sln j + 1) ns 0 0))) 1 100 (va_A (pm_wd (ad_L [h0, q0, q1, q2, q3] sd) cA nl_Y5 σ) sz) := by
  have hl := sb_len j hj
  refine cm_met m14 (Nat.le_of_ble_eq_true rfl) (fun p e s m below meth c hsz hlocks hr cx => ?_)
  refine cg_l cx 1 d14_0 rfl rfl rfl rfl ?_
  refine cg_cv cx 4 [] [0, 1, 2, 3, 4] (wr := pm_wd (ad_L [h0, q0, q1, q2, q3] sd) cA nl_Y5 σ) (S' := []) [] m323 (cm323 l sd D cA hj) (fun H locs hP hS => vk_recv (i := j) (adK := fun k => sd (1100 + k)) (adV := fun k => sd (1200 + k)) cx.2.2.2.2.2.2.2.2.2.1 hj hS) rfl rfl (by decide) (by decide) (by decide) (pm_at_tb (h := 12042) rfl rfl) (pm_at_tb (h := 12043) rfl rfl) (pm_at_tb (h := 12044) rfl rfl) (pm_at_tb (h := 12004) rfl rfl) ⟨rfl, rfl⟩ d14_1 rfl rfl (Nat.le_of_ble_eq_true rfl) ⟨Nat.le_of_ble_eq_true rfl, Nat.le_of_ble_eq_true rfl⟩ ⟨Nat.le_of_ble_eq_true rfl, Nat.le_of_ble_eq_true rfl⟩ rfl (fun v w1 hp => ?_)
  obtain ⟨q, rfl, rfl⟩ := hp
  refine cg_s cx 5 d14_4 rfl rfl (Nat.le_of_ble_eq_true rfl) rfl rfl ?_
  refine cg_k cx 6 0 d14_5 (by decide) rfl ?_
  refine cg_s cx 7 d14_6 rfl rfl (Nat.le_of_ble_eq_true rfl) rfl rfl ?_
  refine cg_k cx 8 0 d14_7 (by decide) rfl ?_
  refine cg_s cx 10 d14_8 rfl rfl (Nat.le_of_ble_eq_true rfl) rfl rfl ?_
  have hT : nm_T (nl_Y6 (pm_sln j)) (pm_pr σ 5 (sb_F j (pm_sln j) (fun _ => 0))) 5 (pm_sln j) (nl_t j) := by
    refine ⟨rfl, by omega, fun i hi => ?_⟩
    rw [pm_r22]
    unfold sb_F
    rw [if_pos hi]
    exact nl_t_ok j hj i hi
  refine cg_pm (Y := nl_Y6 (pm_sln j)) (ad := ad_L [h0, q0, q1, q2, q3, q] sd) (d := 3) (L0 := [.ref 0, .ref (1100 + j), .ref 5, .int (nI 0), .int (nI 0)]) (S0 := []) (σ := pm_pr σ 5 (sb_F j (pm_sln j) (fun _ => 0))) (Q := fun r σ' => r = none ∧ nt_I σ' 0 1 2 3 4 (nl_F (nl_t j) (pm_sln j) (pm_sln j + 1) ns 0 0)) nl_Y6_ok ad_L_s cx hlocks hr ⟨by decide, by decide⟩ ⟨Nat.le_of_ble_eq_true rfl, Nat.le_of_ble_eq_true rfl⟩ (nl_loop (d := 0) (j := j) hl (pm_sln j + 1) 0 0 ns _ (by omega) (Nat.le_refl _) hI hT (by omega) (by omega) (fun σ' h => ⟨rfl, h⟩)) ?_ rfl rfl (fun r σ' hq => ⟨[0, 1, 2, 3, 4], pm_wd (ad_L [h0, q0, q1, q2, q3] sd) cA nl_Y5 σ', rfl, rfl, ?_⟩)
  · simp only [List.map_cons, List.map_nil, pm_tau]
    rw [ad_L_s (1100 + j) (by omega)]
    rfl
  · obtain ⟨rfl, hq⟩ := hq
    exact ⟨rfl, σ', rfl, hq⟩
theorem d322_0 : decode prog_21_method_103_code 0 = .ok (.iconst 0, 1) := by decide +kernel
theorem d322_1 : decode prog_21_method_103_code 1 = .ok (.istore_n 2, 1) := by decide +kernel
theorem d322_2 : decode prog_21_method_103_code 2 = .ok (.aload_n 0, 1) := by decide +kernel
theorem d322_3 : decode prog_21_method_103_code 3 = .ok (.arraylength, 1) := by decide +kernel
theorem d322_4 : decode prog_21_method_103_code 4 = .ok (.istore_n 3, 1) := by decide +kernel
theorem d322_5 : decode prog_21_method_103_code 5 = .ok (.iload_n 2, 1) := by decide +kernel
theorem d322_6 : decode prog_21_method_103_code 6 = .ok (.iload_n 3, 1) := by decide +kernel
theorem d322_7 : decode prog_21_method_103_code 7 = .ok (.if_icmp .ge 13, 3) := by decide +kernel
theorem d322_10 : decode prog_21_method_103_code 10 = .ok (.aload_n 0, 1) := by decide +kernel
theorem d322_11 : decode prog_21_method_103_code 11 = .ok (.iload_n 2, 1) := by decide +kernel
theorem d322_12 : decode prog_21_method_103_code 12 = .ok (.iload_n 1, 1) := by decide +kernel
theorem d322_13 : decode prog_21_method_103_code 13 = .ok (.iastore, 1) := by decide +kernel
theorem d322_14 : decode prog_21_method_103_code 14 = .ok (.iinc 2 1, 3) := by decide +kernel
theorem d322_17 : decode prog_21_method_103_code 17 = .ok (.goto (-12), 3) := by decide +kernel
theorem d322_20 : decode prog_21_method_103_code 20 = .ok (.return_, 1) := by decide +kernel
theorem m322 : pm_m 322 = some (⟨"java/util/Arrays", "fill", "([II)V"⟩, prog_21_method_103_code, 4, none, 11, 2, 0) := rfl
/-- Arrays.fill -/
theorem fl_loop {Y : pm_Y} {d : Nat} {σ : pm_S} {Q : Option Value → pm_S → Prop} {k M : Nat} {v : Int32} {f : Nat → Int32} (hY : Y[k]? = some (.inl (0, M))) (hM : M < 2 ^ 30) (hQ : Q none (pm_pr σ k (fun i => if i < M then v else f i))) : ∀ (n i : Nat), i + n = M → pm_WP Y (pm_call Y d) 11 prog_21_method_103_code none Q 5 [.ref k, .int v, .int (nI i), .int (nI M)] [] (pm_pr σ k (fun x => if x < i then v else f x)) := by
  intro n
  induction n with
  | zero =>
    intro i hi
    have : i = M := by omega
    subst this
    refine wq_l 6 d322_5 rfl rfl rfl rfl ?_
    refine wq_l 7 d322_6 rfl rfl rfl rfl ?_
    refine wq_b 20 10 d322_7 rfl (by decide) rfl (fun c7 => ?_) (fun c7 => absurd (nI_le (Nat.le_refl _) (by omega)) c7)
    refine wq_rv d322_20 ?_
    exact hQ
  | succ n ih =>
    intro i hi
    refine wq_l 6 d322_5 rfl rfl rfl rfl ?_
    refine wq_l 7 d322_6 rfl rfl rfl rfl ?_
    refine wq_b 20 10 d322_7 rfl (by decide) rfl (fun c7 => absurd c7 (nI_ge (by omega) (by omega))) (fun c7 => ?_)
    refine wq_l 11 d322_10 rfl rfl rfl rfl ?_
    refine wq_l 12 d322_11 rfl rfl rfl rfl ?_
    refine wq_l 13 d322_12 rfl rfl rfl rfl ?_
    refine wq_as 14 d322_13 rfl hY rfl (vp_in_nI (by omega) (by omega)) ?_
    rw [nI_clamp (by omega), pm_pr_pr, pm_r22]
    refine wq_i 17 d322_14 rfl rfl rfl ?_
    refine wq_g 5 d322_17 (by decide) ?_
    rw [show nI i + Int32.ofInt 1 = nI (i + 1) from (nI_succ i).symm]
    have e : upd (fun x => if x < i then v else f x) i (pm_nr 0 v) = (fun x => if x < i + 1 then v else f x) := by
      funext x
      by_cases h : x = i
      · subst h; rw [pk_us, if_pos (by omega)]; rfl
      · rw [pk_un h]
        by_cases h2 : x < i
        · rw [if_pos h2, if_pos (by omega)]
        · rw [if_neg h2, if_neg (by omega)]
    rw [e]
    exact ih (i + 1) (by omega)
theorem sp322 {Y : pm_Y} {d : Nat} {σ : pm_S} {Q : Option Value → pm_S → Prop} {k M : Nat} {v : Int32} (hY : Y[k]? = some (.inl (0, M))) (hM : M < 2 ^ 30) (hQ : Q none (pm_pr σ k (fun i => if i < M then v else σ.2.2 k i))) : pm_call Y (d + 1) 322 [.ref k, .int v] σ Q := by
  refine wq_m m322 (Nat.le_of_ble_eq_true rfl) (by decide) rfl ?_
  refine wq_k 1 0 d322_0 (by decide) rfl ?_
  refine wq_s 2 d322_1 rfl rfl (Nat.le_of_ble_eq_true rfl) rfl rfl ?_
  refine wq_l 3 d322_2 rfl rfl rfl rfl ?_
  refine wq_len 4 d322_3 hY rfl rfl ?_
  refine wq_s 5 d322_4 rfl rfl (Nat.le_of_ble_eq_true rfl) rfl rfl ?_
  have h := fl_loop (d := d) (f := σ.2.2 k) hY hM hQ M 0 (by omega)
  rw [show (fun x => if x < 0 then v else σ.2.2 k x) = σ.2.2 k from by funext x; simp, show pm_pr σ k (σ.2.2 k) = σ from by
    unfold pm_pr
    have : (fun a => if a = k then σ.2.2 k else σ.2.2 a) = σ.2.2 := by funext q; by_cases h : q = k <;> simp [h]
    rw [this]] at h
  exact h
/-- the empty table -/
theorem nt_I0 {σ : pm_S} {kN kl ks kh ko : Nat} (h1 : σ.1 kN 4 = 0) (h2 : σ.2.2 ks 0 = 0) (h3 : ∀ b, b < 1024 → σ.2.2 kh b = -1) : nt_I σ kN kl ks kh ko [] := by
  refine ⟨⟨by decide, h1, fun i hi => ?_, fun i hi => absurd hi (Nat.not_lt_zero _), fun i hi => ?_, fun i hi => ?_⟩, fun b hb => ⟨[], h3 b hb, fun x => ?_, List.Pairwise.nil⟩⟩
  · have : i = 0 := Nat.le_zero.mp hi
    subst this
    exact h2
  · show nt_st [] i ≤ 8704
    simp [nt_st]
  · have hi : i < nt_st [] 0 := hi
    simp [nt_st] at hi
  · constructor
    · intro h; exact absurd h List.not_mem_nil
    · intro h; exact absurd h.1 (Nat.not_lt_zero _)
