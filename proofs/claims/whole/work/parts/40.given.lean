/-! WHAT THE STATEMENT GIVES OF THE START: statics, their arrays, the String constants -/
def ws_arr (C n : String) (l : List Int32) : List Cond := [.isRef (.static C n "[I"), .arrayOf (.static C n "[I") .int, .eq (.length (.static C n "[I")) (.int (Int32.ofNat l.length))] ++ (List.range l.length).map (fun j => .eq (.elem (.static C n "[I") (.int (Int32.ofNat j))) (.int (l.getD j 0)))
def ws_tm (i : Nat) : Term := .string (pm_on (pm_stt_.getD i (0, 0, 0)).1) (pm_stt_.getD i (0, 0, 0)).2.1
def ws_vl (i : Nat) : Term := .field (ws_tm i) "java/lang/String" "value" "[B"
def ws_str (i : Nat) : List Cond := [.exactly (ws_tm i) "java/lang/String", .eq (.field (ws_tm i) "java/lang/String" "coder" "B") (.int 0), .arrayOf (ws_vl i) .byte, .eq (.length (ws_vl i)) (.int (Int32.ofNat (pm_sln i)))] ++ ((List.range (pm_sln i)).map (fun j => .eq (.elem (ws_vl i) (.int (Int32.ofNat j))) (.int (pm_sbt i j))) ++ (List.range i).map (fun k => .not (.eq (ws_tm k) (ws_tm i))))
def ws_hd : List Cond := [.count 1, .isRef (.arg 0), .arrayOf (.arg 0) .int, .le (.length (.arg 0)) (.int 3072), .eq (.static "java/lang/String" "COMPACT_STRINGS" "Z") (.int 1), .isRef (.static "jdk/internal/util/Preconditions" "SIOOBE_FORMATTER" "Ljava/util/function/BiFunction;"), .eq (.static "java/lang/StringUTF16" "$assertionsDisabled" "Z") (.int 1), .eq (.static "java/lang/StringUTF16" "HI_BYTE_SHIFT" "I") (.int 0), .eq (.static "java/lang/StringUTF16" "LO_BYTE_SHIFT" "I") (.int 8)]
def ws_ar (j : Nat) : List Cond := ws_arr (pm_sn.getD j ("", "", "")).1 (pm_sn.getD j ("", "", "")).2.1 (pm_sa.getD j [])
def ws_L : List Cond := ws_hd ++ ((List.range 5).flatMap ws_ar ++ (List.range 9).flatMap ws_str)
theorem ws_flat : flatC (Jvm.Cond.and given_1 narrow_1) = ws_L := by decide +kernel
theorem ws_all {b : Nat} {s : State} (hgv : (Jvm.Cond.and given_1 narrow_1).before #[Value.ref b] s = true) : ∀ w ∈ ws_L, w.before #[Value.ref b] s = true := by
  have h := flat_of_before _ hgv
  rw [ws_flat] at h
  exact h
theorem ws_ofA {b : Nat} {s : State} (hgv : (Jvm.Cond.and given_1 narrow_1).before #[Value.ref b] s = true) {j : Nat} (hj : j < 5) : ∀ w ∈ ws_ar j, w.before #[Value.ref b] s = true := fun w hw => ws_all hgv w (List.mem_append_right _ (List.mem_append_left _ (List.mem_flatMap.mpr ⟨j, List.mem_range.mpr hj, hw⟩)))
theorem ws_ofS {b : Nat} {s : State} (hgv : (Jvm.Cond.and given_1 narrow_1).before #[Value.ref b] s = true) {j : Nat} (hj : j < 9) : ∀ w ∈ ws_str j, w.before #[Value.ref b] s = true := fun w hw => ws_all hgv w (List.mem_append_right _ (List.mem_append_right _ (List.mem_flatMap.mpr ⟨j, List.mem_range.mpr hj, hw⟩)))
theorem ws_S {b : Nat} {s : State} (hgv : (Jvm.Cond.and given_1 narrow_1).before #[Value.ref b] s = true) {A : Nat → Prop} (hA : ∀ a : Nat, a < s.heap.size → ¬ A a) : ∃ adK adV : Nat → Nat, vk_S 9 (pm_sby.map List.length) pm_sby adK adV A s s.heap ∧ ∀ i : Nat, i < 9 → (ws_tm i).eval #[Value.ref b] s none [] s = some (.ref (adK i)) := by
  have el : ∀ i, i < 9 → (pm_sby.map List.length).getD i 0 = pm_sln i := by decide +kernel
  have ln : ∀ i, i < 9 → pm_sln i ≤ 100 := sb_len
  refine vk_Sof (fun i hi => ?_) (fun i hi => ?_) (fun i hi => ?_) (fun i hi => ?_) (fun i hi => ?_) (fun i hi j hj => ?_) (fun i j hi hj hij => ?_) hA
  · rw [el i hi]; have := ln i hi; omega
  · exact ws_ofS hgv hi _ (List.mem_append_left _ (List.mem_cons_self ..))
  · exact ws_ofS hgv hi _ (List.mem_append_left _ (List.mem_cons_of_mem _ (List.mem_cons_self ..)))
  · exact ws_ofS hgv hi _ (List.mem_append_left _ (List.mem_cons_of_mem _ (List.mem_cons_of_mem _ (List.mem_cons_self ..))))
  · rw [el i hi]; exact ws_ofS hgv hi _ (List.mem_append_left _ (List.mem_cons_of_mem _ (List.mem_cons_of_mem _ (List.mem_cons_of_mem _ (List.mem_cons_self ..)))))
  · rw [el i hi] at hj; exact ws_ofS hgv hi _ (List.mem_append_right _ (List.mem_append_left _ (List.mem_map.mpr ⟨j, List.mem_range.mpr hj, rfl⟩)))
  · rcases Nat.lt_or_gt_of_ne hij with h | h
    · exact Or.inl (ws_ofS hgv hj _ (List.mem_append_right _ (List.mem_append_right _ (List.mem_map.mpr ⟨i, List.mem_range.mpr h, rfl⟩))))
    · exact Or.inr (ws_ofS hgv hi _ (List.mem_append_right _ (List.mem_append_right _ (List.mem_map.mpr ⟨j, List.mem_range.mpr h, rfl⟩))))
theorem ws_A0 {b : Nat} {s : State} {A : Nat → Prop} (hA : ∀ a : Nat, a < s.heap.size → ¬ A a) (C n : String) (l : List Int32) (hl : l.length < 2 ^ 31) (hw : ∀ w ∈ ws_arr C n l, w.before #[Value.ref b] s = true) : ∃ t : Nat, (Term.static C n "[I").eval #[Value.ref b] s none [] s = some (.ref t) ∧ va_T .int t l.length (fun i => .int (l.getD i 0)) A s s.heap := by
  unfold ws_arr at hw
  exact va_Tof (A := A) (tm := .static C n "[I") (ty := .int) (f := fun i => .int (l.getD i 0)) hl (hw _ (List.mem_append_left _ (List.mem_cons_of_mem _ (List.mem_cons_self ..)))) (va_eqt (hw _ (List.mem_append_left _ (List.mem_cons_of_mem _ (List.mem_cons_of_mem _ (List.mem_cons_self ..)))))) (fun k hk => va_eqt (hw _ (List.mem_append_right _ (List.mem_map.mpr ⟨k, List.mem_range.mpr hk, rfl⟩)))) hA
theorem ws_Al : ∀ j, j < 5 → (pm_sa.getD j []).length < 2 ^ 31 := by decide +kernel
theorem ws_A1 {args : Array Value} {s : State} (hts : ∀ w ∈ lw_tbl, w.before args s = true) {j : Nat} (hj : j < 5) : (Cond.laysStatic (pm_sn.getD j ("", "", "")).1 (pm_sn.getD j ("", "", "")).2.1 "[I").before args s = true ∧ (Cond.initialized (pm_sn.getD j ("", "", "")).1).before args s = true := by
  rcases (show j = 0 ∨ j = 1 ∨ j = 2 ∨ j = 3 ∨ j = 4 by omega) with rfl | rfl | rfl | rfl | rfl
  · exact ⟨hts _ (pm_at_in (h := 15024) rfl), hts _ (pm_at_in (h := 12011) rfl)⟩
  · exact ⟨hts _ (pm_at_in (h := 15087) rfl), hts _ (pm_at_in (h := 12012) rfl)⟩
  · exact ⟨hts _ (pm_at_in (h := 15093) rfl), hts _ (pm_at_in (h := 12013) rfl)⟩
  · exact ⟨hts _ (pm_at_in (h := 16001) rfl), hts _ (pm_at_in (h := 12014) rfl)⟩
  · exact ⟨hts _ (pm_at_in (h := 16101) rfl), hts _ (pm_at_in (h := 12015) rfl)⟩
theorem ws_A {b : Nat} {s : State} (hgv : (Jvm.Cond.and given_1 narrow_1).before #[Value.ref b] s = true) {A : Nat → Prop} (hts : ∀ w ∈ lw_tbl, w.before #[Value.ref b] s = true) (hA : ∀ a : Nat, a < s.heap.size → ¬ A a) {j : Nat} (hj : j < 5) : ∃ t : Nat, va_Z (pm_sn.getD j ("", "", "")).1 (pm_sn.getD j ("", "", "")).2.1 "[I" (.ref t) A s s.heap ∧ va_T .int t (pm_sa.getD j []).length (fun i => .int ((pm_sa.getD j []).getD i 0)) A s s.heap := by
  have hw := ws_ofA hgv hj
  have hl := ws_Al j hj
  have hz := ws_A1 hts hj
  unfold ws_ar at hw
  generalize pm_sn.getD j ("", "", "") = q at hw hz ⊢
  generalize pm_sa.getD j [] = l at hw hl ⊢
  obtain ⟨t, h1, h2⟩ := ws_A0 hA q.1 q.2.1 l hl hw
  exact ⟨t, va_Zref hz.1 hz.2 h1 hA, h2⟩
theorem ws_C {b : Nat} {s : State} (hgv : (Jvm.Cond.and given_1 narrow_1).before #[Value.ref b] s = true) {A : Nat → Prop} (hts : ∀ w ∈ lw_tbl, w.before #[Value.ref b] s = true) (hA : ∀ a : Nat, a < s.heap.size → ¬ A a) : va_Z "java/lang/String" "COMPACT_STRINGS" "Z" (.int 1) A s s.heap := va_Zof (hts _ (pm_at_in (h := 12051) rfl)) (hts _ (pm_at_in (h := 12004) rfl)) (va_eqt (ws_all hgv _ (List.mem_append_left _ (List.mem_cons_of_mem _ (List.mem_cons_of_mem _ (List.mem_cons_of_mem _ (List.mem_cons_of_mem _ (List.mem_cons_self ..)))))))) hA
theorem vk_S_eq {N : Nat} {len : List Nat} {byt : List (List Int32)} {adK adV adK' adV' : Nat → Nat} {A : Nat → Prop} {U : State} {H : Heap} (h1 : ∀ i, i < N → adK' i = adK i) (h2 : ∀ i, i < N → adV' i = adV i) (h : vk_S N len byt adK adV A U H) : vk_S N len byt adK' adV' A U H := by
  refine ⟨fun i hi => ?_, fun i j hi hj e => h.2 i j hi hj ?_⟩
  · rw [h1 i hi, h2 i hi]; exact h.1 i hi
  · rw [h1 i hi, h1 j hj] at e; exact e
theorem ws_stt : ∀ j, j < 9 → pm_at (pm_stt_.getD j (0, 0, 0)).2.2 = some (.stringRef (pm_on (pm_stt_.getD j (0, 0, 0)).1) (pm_stt_.getD j (0, 0, 0)).2.1 (pm_stx.getD j "")) := by decide +kernel
theorem ws_stj {o idx j : Nat} (h : pm_stt o idx = some j) : j < 9 ∧ (pm_stt_.getD j (0, 0, 0)).1 = o ∧ (pm_stt_.getD j (0, 0, 0)).2.1 = idx := by
  unfold pm_stt at h
  obtain ⟨h1, h2, -⟩ := List.findIdx?_eq_some_iff_getElem.mp h
  have e : pm_stt_.getD j (0, 0, 0) = pm_stt_[j] := by rw [List.getD_eq_getElem?_getD, List.getElem?_eq_getElem h1]; rfl
  rw [e]
  simp only [Bool.and_eq_true, beq_iff_eq] at h2
  exact ⟨h1, h2.1, h2.2⟩
/-- the addresses of what stood before: static arrays, Strings, their bytes, the script -/
def ws_sd (sa adK adV : Nat → Nat) (b : Nat) : Nat → Nat := fun k => if k < 1100 then sa (k - 1000) else if k < 1200 then adK (k - 1100) else if k < 1300 then adV (k - 1200) else b
theorem ws_X {b : Nat} {s : State} {A : Nat → Prop} (hgv : (Jvm.Cond.and given_1 narrow_1).before #[Value.ref b] s = true) (hts : ∀ w ∈ lw_tbl, w.before #[Value.ref b] s = true) (hA : ∀ a : Nat, a < s.heap.size → ¬ A a) : ∃ sd : Nat → Nat, pm_X sd A s s.heap ∧ sd 2000 = b := by
  obtain ⟨adK, adV, hS, hR⟩ := ws_S hgv hA
  have ha : ∀ j : Nat, ∃ t : Nat, j < 5 → va_Z (pm_sn.getD j ("", "", "")).1 (pm_sn.getD j ("", "", "")).2.1 "[I" (.ref t) A s s.heap ∧ va_T .int t (pm_sa.getD j []).length (fun i => .int ((pm_sa.getD j []).getD i 0)) A s s.heap := by
    intro j
    by_cases hj : j < 5
    · obtain ⟨t, h⟩ := ws_A hgv hts hA hj
      exact ⟨t, fun _ => h⟩
    · exact ⟨0, fun h => absurd h hj⟩
  obtain ⟨sa, hsa⟩ := Classical.axiomOfChoice ha
  have e1 : ∀ j, j < 5 → ws_sd sa adK adV b (1000 + j) = sa j := fun j hj => by unfold ws_sd; rw [if_pos (by omega), Nat.add_sub_cancel_left]
  have e2 : ∀ j, j < 9 → ws_sd sa adK adV b (1100 + j) = adK j := fun j hj => by unfold ws_sd; rw [if_neg (by omega), if_pos (by omega), Nat.add_sub_cancel_left]
  have e3 : ∀ j, j < 9 → ws_sd sa adK adV b (1200 + j) = adV j := fun j hj => by unfold ws_sd; rw [if_neg (by omega), if_neg (by omega), if_pos (by omega), Nat.add_sub_cancel_left]
  refine ⟨ws_sd sa adK adV b, ⟨fun j f C n d h1 h2 => ?_, vk_S_eq e2 e3 hS, ws_C hgv hts hA, fun o idx j h => ?_⟩, rfl⟩
  · have hj : j < 5 := (List.getElem?_eq_some_iff.mp h1).1
    have q := hsa j hj
    have f1 : pm_sa.getD j [] = f := by rw [List.getD_eq_getElem?_getD, h1]; rfl
    have f2 : pm_sn.getD j ("", "", "") = (C, n, d) := by rw [List.getD_eq_getElem?_getD, h2]; rfl
    have f3 : d = "[I" := by
      have : ∀ j, j < 5 → (pm_sn.getD j ("", "", "")).2.2 = "[I" := by decide +kernel
      have := this j hj
      rwa [f2] at this
    rw [f1, f2] at q
    rw [e1 j hj, f3]
    exact q
  · obtain ⟨hj, h1, h2⟩ := ws_stj h
    have q := hR j hj
    have t := hts _ (pm_at_in (ws_stt j hj))
    rw [h1, h2] at t
    rw [e2 j hj]
    refine vk_R.of t ?_
    have : ws_tm j = .string (pm_on o) idx := by unfold ws_tm; rw [h1, h2]
    rwa [this] at q
theorem ws_K {b : Nat} {s : State} (hts : ∀ w ∈ pm_tb, w.before #[Value.ref b] s = true) : ∃ (D : va_G) (cA : Nat → ClassId), va_K D pm_cl (pm_tys cA) s := by
  obtain ⟨c0, i0, k0⟩ := u_known hts (pm_cl_ok (ci := 0) rfl).1 (hts _ (pm_at_tb (h := 12021) rfl rfl))
  obtain ⟨c1, i1, k1⟩ := u_known hts (pm_cl_ok (ci := 1) rfl).1 (hts _ (pm_at_tb (h := 12029) rfl rfl))
  obtain ⟨c2, i2, k2⟩ := u_known hts (pm_cl_ok (ci := 2) rfl).1 (hts _ (pm_at_tb (h := 12135) rfl rfl))
  obtain ⟨c3, i3, k3⟩ := u_known hts (pm_cl_ok (ci := 3) rfl).1 (hts _ (pm_at_tb (h := 12175) rfl rfl))
  obtain ⟨c4, i4, k4⟩ := u_known hts (pm_cl_ok (ci := 4) rfl).1 (hts _ (pm_at_tb (h := 12209) rfl rfl))
  obtain ⟨c5, i5, k5⟩ := u_known hts (pm_cl_ok (ci := 5) rfl).1 (hts _ (pm_at_tb (h := 12228) rfl rfl))
  obtain ⟨c6, i6, k6⟩ := u_known hts (pm_cl_ok (ci := 6) rfl).1 (hts _ (pm_at_tb (h := 12234) rfl rfl))
  obtain ⟨c7, i7, k7⟩ := u_known hts (pm_cl_ok (ci := 7) rfl).1 (hts _ (pm_at_tb (h := 13063) rfl rfl))
  obtain ⟨c8, i8, k8⟩ := u_known hts (pm_cl_ok (ci := 8) rfl).1 (hts _ (pm_at_tb (h := 13073) rfl rfl))
  obtain ⟨c9, i9, k9⟩ := u_known hts (pm_cl_ok (ci := 9) rfl).1 (hts _ (pm_at_tb (h := 13090) rfl rfl))
  obtain ⟨c10, i10, k10⟩ := u_known hts (pm_cl_ok (ci := 10) rfl).1 (hts _ (pm_at_tb (h := 17049) rfl rfl))
  obtain ⟨a0, ka0, co0, e0, f0, g0⟩ := Cond.arrayClass_spec (hts _ (pm_at_tb (h := 12132) rfl rfl))
  obtain ⟨a1, ka1, co1, e1, f1, g1⟩ := Cond.arrayClass_spec (hts _ (pm_at_tb (h := 12131) rfl rfl))
  obtain ⟨a2, ka2, co2, e2, f2, g2⟩ := Cond.arrayClass_spec (hts _ (pm_at_tb (h := 13027) rfl rfl))
  obtain ⟨a3, ka3, co3, e3, f3, g3⟩ := Cond.arrayClass_spec (hts _ (pm_at_tb (h := 17220) rfl rfl))
  refine ⟨(fun k => [c0, c1, c2, c3, c4, c5, c6, c7, c8, c9, c10].getD k c0, fun k => [i0, i1, i2, i3, i4, i5, i6, i7, i8, i9, i10].getD k i0), fun k => [a0, a1, a2, a3].getD k a0, fun k q hq => ?_, fun k q hq => ?_⟩
  · match k, hq with
    | 0, hq => cases hq; exact k0
    | 1, hq => cases hq; exact k1
    | 2, hq => cases hq; exact k2
    | 3, hq => cases hq; exact k3
    | 4, hq => cases hq; exact k4
    | 5, hq => cases hq; exact k5
    | 6, hq => cases hq; exact k6
    | 7, hq => cases hq; exact k7
    | 8, hq => cases hq; exact k8
    | 9, hq => cases hq; exact k9
    | 10, hq => cases hq; exact k10
    | k + 11, hq => simp [pm_cl] at hq
  · match k, hq with
    | 0, hq => cases hq; exact ⟨fun n z => ⟨fun k h => (by cases h), ka0, f0, co0, g0⟩, e0⟩
    | 1, hq => cases hq; exact ⟨fun n z => ⟨fun k h => (by cases h), ka1, f1, co1, g1⟩, e1⟩
    | 2, hq => cases hq; exact ⟨fun n z => ⟨fun k h => (by cases h), ka2, f2, co2, g2⟩, e2⟩
    | 3, hq => cases hq; exact ⟨fun n z => ⟨fun k h => (by cases h), ka3, f3, co3, g3⟩, e3⟩
    | k + 4, hq => simp [pm_tys] at hq
