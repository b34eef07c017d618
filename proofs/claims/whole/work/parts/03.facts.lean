/-! THE TABLES, what they say: looked up, and decided once -/
/-- the words that stay true -/
def pm_tb : List Cond := lw_tbl.filter goodWord
theorem pm_tb_of {w : Cond} (h : w ∈ lw_tbl) (g : goodWord w = true) : w ∈ pm_tb := List.mem_filter.mpr ⟨h, g⟩
theorem pm_tb_hts {args : Array Value} {s : State} (h : ∀ w ∈ lw_tbl, w.before args s = true) : ∀ w ∈ pm_tb, w.before args s = true := fun w hw => h w (List.mem_filter.mp hw).1
theorem pm_at_tb {h : Nat} {w : Cond} (e : pm_at h = some w) (g : goodWord w = true) : w ∈ pm_tb := pm_tb_of (pm_at_in e) g
theorem pm_all2 {α : Type} (f : Nat → α → Bool) : ∀ (l : List (List α)) (k : Nat), (l.zipIdx k).all (fun p => p.1.all (f p.2)) = true → ∀ (o : Nat) (q : α), q ∈ l.getD o [] → f (k + o) q = true
  | [], _, _, o, q, h => by simp at h
  | a :: l, k, hh, o, q, h => by
    simp only [List.zipIdx_cons, List.all_cons, Bool.and_eq_true] at hh
    cases o with
    | zero => exact List.all_eq_true.mp hh.1 q (by simpa using h)
    | succ o =>
      have := pm_all2 f l (k + 1) hh.2 o q (by simpa using h)
      rw [show k + (o + 1) = k + 1 + o by omega]
      exact this
theorem pm_look {α : Type} {l : List (List α)} {f : Nat → α → Bool} (hh : (l.zipIdx 0).all (fun p => p.1.all (f p.2)) = true) {o : Nat} {g : α → Bool} {q : α} (h : (l.getD o []).find? g = some q) : f o q = true ∧ g q = true := by
  have := pm_all2 f l 0 hh o q (List.mem_of_find?_eq_some h)
  rw [Nat.zero_add] at this
  exact ⟨this, List.find?_some h⟩
def pm_fd (o idx : Nat) : Option (Nat × Nat) := ((pm_fds.getD o []).find? (fun q => q.1 == idx)).map (fun q => (q.2.1, q.2.2.1))
def pm_ckf (o : Nat) (q : Nat × Nat × Nat × Nat) : Bool := match pm_cl[q.2.1]? with
  | some (_, T, N) => decide (q.2.2.1 < N) && decide (pm_at q.2.2.2 = some (.fieldLink (pm_on o) q.1 (T q.2.2.1).1 (T q.2.2.1).2.1 (T q.2.2.1).2.2.1))
  | none => false
set_option maxRecDepth 100000 in
theorem pm_fds_ok : (pm_fds.zipIdx 0).all (fun p => p.1.all (pm_ckf p.2)) = true := by decide +kernel
theorem pm_fd_ok {o idx ci j : Nat} (h : pm_fd o idx = some (ci, j)) : ∃ C T N, pm_cl[ci]? = some (C, T, N) ∧ j < N ∧ Cond.fieldLink (pm_on o) idx (T j).1 (T j).2.1 (T j).2.2.1 ∈ pm_tb := by
  unfold pm_fd at h
  cases hq : (pm_fds.getD o []).find? (fun q => q.1 == idx) with
  | none => rw [hq] at h; cases h
  | some q =>
    rw [hq] at h
    obtain ⟨a, b, c, d⟩ := q
    simp only [Option.map_some, Option.some.injEq, Prod.mk.injEq] at h
    obtain ⟨rfl, rfl⟩ := h
    obtain ⟨h1, h2⟩ := pm_look pm_fds_ok hq
    have h2 : a = idx := by simpa using h2
    subst h2
    unfold pm_ckf at h1
    split at h1
    · rename_i C T N hc
      simp only [Bool.and_eq_true, decide_eq_true_eq] at h1
      exact ⟨C, T, N, hc, h1.1, pm_at_tb h1.2 rfl⟩
    · cases h1
def pm_sf (o idx : Nat) : Option Nat := ((pm_sfs.getD o []).find? (fun q => q.1 == idx)).map (fun q => q.2.1)
def pm_cks (o : Nat) (q : Nat × Nat × Nat) : Bool := match pm_sn[q.2.1]? with
  | some (C, n, d) => decide (pm_at q.2.2 = some (.fieldLink (pm_on o) q.1 C n d))
  | none => false
set_option maxRecDepth 100000 in
theorem pm_sfs_ok : (pm_sfs.zipIdx 0).all (fun p => p.1.all (pm_cks p.2)) = true := by decide +kernel
theorem pm_sf_ok {o idx j : Nat} (h : pm_sf o idx = some j) : ∃ C n d, pm_sn[j]? = some (C, n, d) ∧ Cond.fieldLink (pm_on o) idx C n d ∈ pm_tb := by
  unfold pm_sf at h
  cases hq : (pm_sfs.getD o []).find? (fun q => q.1 == idx) with
  | none => rw [hq] at h; cases h
  | some q =>
    rw [hq] at h
    obtain ⟨a, b, c⟩ := q
    simp only [Option.map_some, Option.some.injEq] at h
    subst h
    obtain ⟨h1, h2⟩ := pm_look pm_sfs_ok hq
    have h2 : a = idx := by simpa using h2
    subst h2
    unfold pm_cks at h1
    split at h1
    · rename_i C n d hc
      exact ⟨C, n, d, hc, pm_at_tb (of_decide_eq_true h1) rfl⟩
    · cases h1
def pm_ct (o idx : Nat) : Option Int32 := ((pm_cts.getD o []).find? (fun q => q.1 == idx)).map (fun q => q.2.1)
def pm_ckc (o : Nat) (q : Nat × Int32 × Nat) : Bool := decide (pm_at q.2.2 = some (Cond.constant (pm_on o) q.1 q.2.1))
set_option maxRecDepth 100000 in
theorem pm_cts_ok : (pm_cts.zipIdx 0).all (fun p => p.1.all (pm_ckc p.2)) = true := by decide +kernel
theorem pm_ct_ok {o idx : Nat} {v : Int32} (h : pm_ct o idx = some v) : Cond.constant (pm_on o) idx v ∈ pm_tb := by
  unfold pm_ct at h
  cases hq : (pm_cts.getD o []).find? (fun q => q.1 == idx) with
  | none => rw [hq] at h; cases h
  | some q =>
    rw [hq] at h
    obtain ⟨a, b, c⟩ := q
    simp only [Option.map_some, Option.some.injEq] at h
    subst h
    obtain ⟨h1, h2⟩ := pm_look pm_cts_ok hq
    have h2 : a = idx := by simpa using h2
    subst h2
    exact pm_at_tb (of_decide_eq_true h1) rfl
def pm_ctl (o idx : Nat) : Option Int64 := ((pm_ctls.getD o []).find? (fun q => q.1 == idx)).map (fun q => q.2.1)
def pm_ckl (o : Nat) (q : Nat × Int64 × Nat) : Bool := decide (pm_at q.2.2 = some (Cond.constantLong (pm_on o) q.1 q.2.1))
set_option maxRecDepth 100000 in
theorem pm_ctls_ok : (pm_ctls.zipIdx 0).all (fun p => p.1.all (pm_ckl p.2)) = true := by decide +kernel
theorem pm_ctl_ok {o idx : Nat} {v : Int64} (h : pm_ctl o idx = some v) : Cond.constantLong (pm_on o) idx v ∈ pm_tb := by
  unfold pm_ctl at h
  cases hq : (pm_ctls.getD o []).find? (fun q => q.1 == idx) with
  | none => rw [hq] at h; cases h
  | some q =>
    rw [hq] at h
    obtain ⟨a, b, c⟩ := q
    simp only [Option.map_some, Option.some.injEq] at h
    subst h
    obtain ⟨h1, h2⟩ := pm_look pm_ctls_ok hq
    have h2 : a = idx := by simpa using h2
    subst h2
    exact pm_at_tb (of_decide_eq_true h1) rfl
/-- methods: name, code, slots, answer, class of the code, parameters, class of the object and one (0: static) -/
abbrev pm_M : Type := MethodName × ByteArray × Nat × Option FieldType × Nat × Nat × Nat
def pm_mk (r : pm_Mr) : Option pm_M := match pm_at r.1 with
  | some (.code y b n rt) => some (y, b, n, rt, r.2.1, r.2.2.1, r.2.2.2)
  | _ => none
def pm_m (t : Nat) : Option pm_M := match pm_ms[t]? with
  | some r => pm_mk r
  | none => none
def pm_ckm (r : pm_Mr) : Bool := match pm_mk r with
  | some (y, _, _, _, o, na, _) => (y.cls == pm_on o) && plainName y.cls && (y.cls != "java/lang/invoke/MethodHandle") && (y.cls != "java/lang/invoke/VarHandle") && ((parseMethodDescriptor y.desc).map (fun d => d.parameters.length) == some na)
  | none => true
set_option maxRecDepth 100000 in
theorem pm_ms_ok0 : pm_ms0.all pm_ckm = true := by decide +kernel
set_option maxRecDepth 100000 in
theorem pm_ms_ok1 : pm_ms1.all pm_ckm = true := by decide +kernel
set_option maxRecDepth 100000 in
theorem pm_ms_ok2 : pm_ms2.all pm_ckm = true := by decide +kernel
set_option maxRecDepth 100000 in
theorem pm_ms_ok3 : pm_ms3.all pm_ckm = true := by decide +kernel
set_option maxRecDepth 100000 in
theorem pm_ms_ok4 : pm_ms4.all pm_ckm = true := by decide +kernel
set_option maxRecDepth 100000 in
theorem pm_ms_ok5 : pm_ms5.all pm_ckm = true := by decide +kernel
set_option maxRecDepth 100000 in
theorem pm_ms_ok6 : pm_ms6.all pm_ckm = true := by decide +kernel
set_option maxRecDepth 100000 in
theorem pm_ms_ok7 : pm_ms7.all pm_ckm = true := by decide +kernel
set_option maxRecDepth 100000 in
theorem pm_ms_ok8 : pm_ms8.all pm_ckm = true := by decide +kernel
theorem pm_ms_ok : pm_ms.all pm_ckm = true := by
  unfold pm_ms
  simp only [List.all_append, pm_ms_ok0, pm_ms_ok1, pm_ms_ok2, pm_ms_ok3, pm_ms_ok4, pm_ms_ok5, pm_ms_ok6, pm_ms_ok7, pm_ms_ok8, Bool.and_self]
theorem pm_m_ok {t : Nat} {y : MethodName} {cc : ByteArray} {n : Nat} {rt : Option FieldType} {o na oc : Nat} (hm : pm_m t = some (y, cc, n, rt, o, na, oc)) : Cond.code y cc n rt ∈ pm_tb ∧ y.cls = pm_on o ∧ plainName y.cls = true ∧ (y.cls ≠ "java/lang/invoke/MethodHandle" ∧ y.cls ≠ "java/lang/invoke/VarHandle" ∧ (parseMethodDescriptor y.desc).map (fun d => d.parameters.length) = some na) := by
  unfold pm_m at hm
  cases hr : pm_ms[t]? with
  | none => rw [hr] at hm; cases hm
  | some r =>
    rw [hr] at hm
    have hm : pm_mk r = some (y, cc, n, rt, o, na, oc) := hm
    have h1 := List.all_eq_true.mp pm_ms_ok _ (List.mem_of_getElem? hr)
    have h0 : pm_at r.1 = some (.code y cc n rt) := by
      unfold pm_mk at hm
      split at hm
      · rename_i y' b' n' rt' he
        simp only [Option.some.injEq, Prod.mk.injEq] at hm
        obtain ⟨rfl, rfl, rfl, rfl, -⟩ := hm
        exact he
      · cases hm
    unfold pm_ckm at h1
    rw [hm] at h1
    simp only [Bool.and_eq_true, beq_iff_eq, bne_iff_ne, ne_eq] at h1
    obtain ⟨⟨⟨⟨h2, h3⟩, h4⟩, h5⟩, h6⟩ := h1
    exact ⟨pm_at_tb h0 rfl, h2, h3, h4, h5, h6⟩
/-- calls: kind and method -/
def pm_mt (o idx : Nat) : Option (Nat × Nat) := ((pm_mts.getD o []).find? (fun q => q.1 == idx)).map (fun q => (q.2.1, q.2.2.1))
def pm_ckt (o : Nat) (q : Nat × Nat × Nat × Nat × Nat × Nat × Nat) : Bool := match q with
  | (idx, 0, t, a, b, c, d) => match pm_m t with
    | some (y, _, _, _, o', _, oc) => decide (pm_at a = some (.methodLink (pm_on o) idx y)) && decide (pm_at b = some (.instanceMethod y)) && decide (pm_at c = some (.selects (pm_on o') y y)) && decide (pm_at d = some (.initialized (pm_on o'))) && decide (oc = o' + 1)
    | none => false
  | (idx, 1, t, a, b, _, d) => match pm_m t with
    | some (y, _, _, _, o', _, oc) => decide (pm_at a = some (.methodLink (pm_on o) idx y)) && decide (pm_at b = some (.static y)) && decide (pm_at d = some (.initialized (pm_on o'))) && decide (oc = 0)
    | none => false
  | (idx, 2, _, a, b, c, d) => decide (pm_at a = some (.methodLink (pm_on o) idx Lib.Math.min.name)) && decide (pm_at b = some (.static Lib.Math.min.name)) && decide (pm_at c = some (.code Lib.Math.min.name Lib.Math.min.code 2 (some .int))) && decide (pm_at d = some (.initialized "java/lang/Math"))
  | (idx, 3, _, a, b, c, d) => decide (pm_at a = some (.methodLink (pm_on o) idx Lib.Math.max.name)) && decide (pm_at b = some (.static Lib.Math.max.name)) && decide (pm_at c = some (.code Lib.Math.max.name Lib.Math.max.code 2 (some .int))) && decide (pm_at d = some (.initialized "java/lang/Math"))
  | (idx, 4, _, a, b, c, d) => decide (pm_at a = some (.methodLink (pm_on o) idx arraycopyName)) && decide (pm_at b = some (.static arraycopyName)) && decide (pm_at c = some (.native arraycopyName)) && decide (pm_at d = some (.initialized "java/lang/System"))
  | (idx, 5, _, a, b, c, d) => decide (pm_at a = some (.methodLink (pm_on o) idx Lib.MathLoose.min_long.x)) && decide (pm_at b = some (.static Lib.MathLoose.min_long.x)) && decide (pm_at c = some (.code Lib.MathLoose.min_long.x Lib.MathLoose.min_long.code 4 (some .long))) && decide (pm_at d = some (.initialized "java/lang/Math"))
  | _ => false
set_option maxRecDepth 100000 in
theorem pm_mts_ok0 : (pm_mts.getD 0 []).all (pm_ckt 0) = true := by decide +kernel
set_option maxRecDepth 100000 in
theorem pm_mts_ok1 : (pm_mts.getD 1 []).all (pm_ckt 1) = true := by decide +kernel
set_option maxRecDepth 100000 in
theorem pm_mts_ok2 : (pm_mts.getD 2 []).all (pm_ckt 2) = true := by decide +kernel
set_option maxRecDepth 100000 in
theorem pm_mts_ok3 : (pm_mts.getD 3 []).all (pm_ckt 3) = true := by decide +kernel
set_option maxRecDepth 100000 in
theorem pm_mts_ok4 : (pm_mts.getD 4 []).all (pm_ckt 4) = true := by decide +kernel
set_option maxRecDepth 100000 in
theorem pm_mts_ok5 : (pm_mts.getD 5 []).all (pm_ckt 5) = true := by decide +kernel
set_option maxRecDepth 100000 in
theorem pm_mts_ok6 : (pm_mts.getD 6 []).all (pm_ckt 6) = true := by decide +kernel
set_option maxRecDepth 100000 in
theorem pm_mts_ok7 : (pm_mts.getD 7 []).all (pm_ckt 7) = true := by decide +kernel
set_option maxRecDepth 100000 in
theorem pm_mts_ok8 : (pm_mts.getD 8 []).all (pm_ckt 8) = true := by decide +kernel
set_option maxRecDepth 100000 in
theorem pm_mts_ok9 : (pm_mts.getD 9 []).all (pm_ckt 9) = true := by decide +kernel
set_option maxRecDepth 100000 in
theorem pm_mts_ok10 : (pm_mts.getD 10 []).all (pm_ckt 10) = true := by decide +kernel
set_option maxRecDepth 100000 in
theorem pm_mts_ok11 : (pm_mts.getD 11 []).all (pm_ckt 11) = true := by decide +kernel
set_option maxRecDepth 100000 in
theorem pm_mts_ok12 : (pm_mts.getD 12 []).all (pm_ckt 12) = true := by decide +kernel
set_option maxRecDepth 100000 in
theorem pm_mts_ok13 : (pm_mts.getD 13 []).all (pm_ckt 13) = true := by decide +kernel
set_option maxRecDepth 100000 in
theorem pm_mts_ok14 : (pm_mts.getD 14 []).all (pm_ckt 14) = true := by decide +kernel
theorem cj_M : ∀ w ∈ cu_M, w ∈ pm_tb := fun w h => pm_tb_of (ci_M w h) (List.all_eq_true.mp (by decide +kernel : (cu_M).all goodWord = true) w h)
theorem cj_N : ∀ w ∈ cu_N, w ∈ pm_tb := fun w h => pm_tb_of (ci_N w h) (List.all_eq_true.mp (by decide +kernel : (cu_N).all goodWord = true) w h)
theorem cj_K : ∀ w ∈ cu_K, w ∈ pm_tb := fun w h => pm_tb_of (ci_K w h) (List.all_eq_true.mp (by decide +kernel : (cu_K).all goodWord = true) w h)
theorem cj_T : ∀ w ∈ cu_T, w ∈ pm_tb := fun w h => pm_tb_of (ci_T w h) (List.all_eq_true.mp (by decide +kernel : (cu_T).all goodWord = true) w h)
theorem cj_P : ∀ w ∈ cu_P, w ∈ pm_tb := fun w h => pm_tb_of (ci_P w h) (List.all_eq_true.mp (by decide +kernel : (cu_P).all goodWord = true) w h)
theorem cj_B : ∀ w ∈ cu_B, w ∈ pm_tb := fun w h => pm_tb_of (ci_B w h) (List.all_eq_true.mp (by decide +kernel : (cu_B).all goodWord = true) w h)
theorem cj_V : ∀ w ∈ cu_V, w ∈ pm_tb := fun w h => pm_tb_of (ci_V w h) (List.all_eq_true.mp (by decide +kernel : (cu_V).all goodWord = true) w h)
theorem cj_R : ∀ w ∈ cu_R, w ∈ pm_tb := fun w h => pm_tb_of (ci_R w h) (List.all_eq_true.mp (by decide +kernel : (cu_R).all goodWord = true) w h)
theorem cj_E : ∀ w ∈ cu_E, w ∈ pm_tb := fun w h => pm_tb_of (ci_E w h) (List.all_eq_true.mp (by decide +kernel : (cu_E).all goodWord = true) w h)
theorem cj_S : ∀ w ∈ cu_S, w ∈ pm_tb := fun w h => pm_tb_of (ci_S w h) (List.all_eq_true.mp (by decide +kernel : (cu_S).all goodWord = true) w h)
theorem cj_X : ∀ w ∈ cu_X, w ∈ pm_tb := fun w h => pm_tb_of (ci_X w h) (List.all_eq_true.mp (by decide +kernel : (cu_X).all goodWord = true) w h)
/-- what holds of a class of the list -/
theorem pm_cl_ok {ci : Nat} {C : String} {T : u_T} {N : Nat} (h : pm_cl[ci]? = some (C, T, N)) : (∀ w ∈ u_ws C T N, w ∈ pm_tb) ∧ (∀ k, k < N → parseFieldDescriptor (T k).2.2.1 = some (pm_ft ci k)) ∧ (∀ a, a < N → ∀ b, b < N → a ≠ b → (T a).2.1 ≠ (T b).2.1) ∧ C = pm_on ci := by
  match ci, h with
  | 0, h => cases h; exact ⟨cj_M, ct_M_ok, cn_M, rfl⟩
  | 1, h => cases h; exact ⟨cj_N, ct_N_ok, cn_N, rfl⟩
  | 2, h => cases h; exact ⟨cj_K, ct_K_ok, cn_K, rfl⟩
  | 3, h => cases h; exact ⟨cj_T, ct_T_ok, cn_T, rfl⟩
  | 4, h => cases h; exact ⟨cj_P, ct_P_ok, cn_P, rfl⟩
  | 5, h => cases h; exact ⟨cj_B, ct_B_ok, cn_B, rfl⟩
  | 6, h => cases h; exact ⟨cj_V, ct_V_ok, cn_V, rfl⟩
  | 7, h => cases h; exact ⟨cj_R, ct_R_ok, cn_R, rfl⟩
  | 8, h => cases h; exact ⟨cj_E, ct_E_ok, cn_E, rfl⟩
  | 9, h => cases h; exact ⟨cj_S, ct_S_ok, cn_S, rfl⟩
  | 10, h => cases h; exact ⟨cj_X, ct_X_ok, cn_X, rfl⟩
  | k + 11, h => simp [pm_cl] at h
theorem pm_mts_len : pm_mts.length = 15 := rfl
theorem pm_mts_ok : ∀ (o : Nat) (q : Nat × Nat × Nat × Nat × Nat × Nat × Nat), q ∈ pm_mts.getD o [] → pm_ckt o q = true := by
  intro o q h
  by_cases ho : o < 15
  · match o, ho, h with
    | 0, _, h => exact List.all_eq_true.mp pm_mts_ok0 q h
    | 1, _, h => exact List.all_eq_true.mp pm_mts_ok1 q h
    | 2, _, h => exact List.all_eq_true.mp pm_mts_ok2 q h
    | 3, _, h => exact List.all_eq_true.mp pm_mts_ok3 q h
    | 4, _, h => exact List.all_eq_true.mp pm_mts_ok4 q h
    | 5, _, h => exact List.all_eq_true.mp pm_mts_ok5 q h
    | 6, _, h => exact List.all_eq_true.mp pm_mts_ok6 q h
    | 7, _, h => exact List.all_eq_true.mp pm_mts_ok7 q h
    | 8, _, h => exact List.all_eq_true.mp pm_mts_ok8 q h
    | 9, _, h => exact List.all_eq_true.mp pm_mts_ok9 q h
    | 10, _, h => exact List.all_eq_true.mp pm_mts_ok10 q h
    | 11, _, h => exact List.all_eq_true.mp pm_mts_ok11 q h
    | 12, _, h => exact List.all_eq_true.mp pm_mts_ok12 q h
    | 13, _, h => exact List.all_eq_true.mp pm_mts_ok13 q h
    | 14, _, h => exact List.all_eq_true.mp pm_mts_ok14 q h
    | o + 15, ho, _ => omega
  · rw [List.getD_eq_getElem?_getD, List.getElem?_eq_none (by rw [pm_mts_len]; omega)] at h
    cases h
theorem pm_mt_at {o idx k t : Nat} (h : pm_mt o idx = some (k, t)) : ∃ a b c d, pm_ckt o (idx, k, t, a, b, c, d) = true := by
  unfold pm_mt at h
  cases hq : (pm_mts.getD o []).find? (fun q => q.1 == idx) with
  | none => rw [hq] at h; cases h
  | some q =>
    rw [hq] at h
    obtain ⟨i, k', t', a, b, c, d⟩ := q
    simp only [Option.map_some, Option.some.injEq, Prod.mk.injEq] at h
    obtain ⟨rfl, rfl⟩ := h
    have h2 : i = idx := by simpa using List.find?_some hq
    subst h2
    exact ⟨a, b, c, d, pm_mts_ok o _ (List.mem_of_find?_eq_some hq)⟩
theorem pm_mt_0 {o idx t : Nat} (h : pm_mt o idx = some (0, t)) : ∃ y cc n rt o' na, pm_m t = some (y, cc, n, rt, o', na, o' + 1) ∧ Cond.methodLink (pm_on o) idx y ∈ pm_tb ∧ Cond.instanceMethod y ∈ pm_tb ∧ Cond.selects (pm_on o') y y ∈ pm_tb ∧ Cond.initialized (pm_on o') ∈ pm_tb := by
  obtain ⟨a, b, c, d, hc⟩ := pm_mt_at h
  simp only [pm_ckt] at hc
  split at hc
  · rename_i y cc n rt o' na oc hm
    simp only [Bool.and_eq_true, decide_eq_true_eq] at hc
    obtain ⟨⟨⟨⟨h1, h2⟩, h3⟩, h4⟩, h5⟩ := hc
    subst h5
    exact ⟨y, cc, n, rt, o', na, hm, pm_at_tb h1 rfl, pm_at_tb h2 rfl, pm_at_tb h3 rfl, pm_at_tb h4 rfl⟩
  · cases hc
theorem pm_mt_1 {o idx t : Nat} (h : pm_mt o idx = some (1, t)) : ∃ y cc n rt o' na, pm_m t = some (y, cc, n, rt, o', na, 0) ∧ Cond.methodLink (pm_on o) idx y ∈ pm_tb ∧ Cond.static y ∈ pm_tb ∧ Cond.initialized (pm_on o') ∈ pm_tb := by
  obtain ⟨a, b, c, d, hc⟩ := pm_mt_at h
  simp only [pm_ckt] at hc
  split at hc
  · rename_i y cc n rt o' na oc hm
    simp only [Bool.and_eq_true, decide_eq_true_eq] at hc
    obtain ⟨⟨⟨h1, h2⟩, h4⟩, h5⟩ := hc
    subst h5
    exact ⟨y, cc, n, rt, o', na, hm, pm_at_tb h1 rfl, pm_at_tb h2 rfl, pm_at_tb h4 rfl⟩
  · cases hc
theorem pm_mt_2 {o idx t : Nat} (h : pm_mt o idx = some (2, t)) : Cond.methodLink (pm_on o) idx Lib.Math.min.name ∈ pm_tb ∧ Cond.static Lib.Math.min.name ∈ pm_tb ∧ Cond.code Lib.Math.min.name Lib.Math.min.code 2 (some .int) ∈ pm_tb ∧ Cond.initialized "java/lang/Math" ∈ pm_tb := by
  obtain ⟨a, b, c, d, hc⟩ := pm_mt_at h
  simp only [pm_ckt, Bool.and_eq_true, decide_eq_true_eq] at hc
  obtain ⟨⟨⟨h1, h2⟩, h3⟩, h4⟩ := hc
  exact ⟨pm_at_tb h1 rfl, pm_at_tb h2 rfl, pm_at_tb h3 rfl, pm_at_tb h4 rfl⟩
theorem pm_mt_3 {o idx t : Nat} (h : pm_mt o idx = some (3, t)) : Cond.methodLink (pm_on o) idx Lib.Math.max.name ∈ pm_tb ∧ Cond.static Lib.Math.max.name ∈ pm_tb ∧ Cond.code Lib.Math.max.name Lib.Math.max.code 2 (some .int) ∈ pm_tb ∧ Cond.initialized "java/lang/Math" ∈ pm_tb := by
  obtain ⟨a, b, c, d, hc⟩ := pm_mt_at h
  simp only [pm_ckt, Bool.and_eq_true, decide_eq_true_eq] at hc
  obtain ⟨⟨⟨h1, h2⟩, h3⟩, h4⟩ := hc
  exact ⟨pm_at_tb h1 rfl, pm_at_tb h2 rfl, pm_at_tb h3 rfl, pm_at_tb h4 rfl⟩
theorem pm_mt_4 {o idx t : Nat} (h : pm_mt o idx = some (4, t)) : Cond.methodLink (pm_on o) idx arraycopyName ∈ pm_tb ∧ Cond.static arraycopyName ∈ pm_tb ∧ Cond.native arraycopyName ∈ pm_tb ∧ Cond.initialized "java/lang/System" ∈ pm_tb := by
  obtain ⟨a, b, c, d, hc⟩ := pm_mt_at h
  simp only [pm_ckt, Bool.and_eq_true, decide_eq_true_eq] at hc
  obtain ⟨⟨⟨h1, h2⟩, h3⟩, h4⟩ := hc
  exact ⟨pm_at_tb h1 rfl, pm_at_tb h2 rfl, pm_at_tb h3 rfl, pm_at_tb h4 rfl⟩
theorem pm_mt_5 {o idx t : Nat} (h : pm_mt o idx = some (5, t)) : Cond.methodLink (pm_on o) idx Lib.MathLoose.min_long.x ∈ pm_tb ∧ Cond.static Lib.MathLoose.min_long.x ∈ pm_tb ∧ Cond.code Lib.MathLoose.min_long.x Lib.MathLoose.min_long.code 4 (some .long) ∈ pm_tb ∧ Cond.initialized "java/lang/Math" ∈ pm_tb := by
  obtain ⟨a, b, c, d, hc⟩ := pm_mt_at h
  simp only [pm_ckt, Bool.and_eq_true, decide_eq_true_eq] at hc
  obtain ⟨⟨⟨h1, h2⟩, h3⟩, h4⟩ := hc
  exact ⟨pm_at_tb h1 rfl, pm_at_tb h2 rfl, pm_at_tb h3 rfl, pm_at_tb h4 rfl⟩
/-- String constants by the class of the code and the index: which -/
def pm_stt (o idx : Nat) : Option Nat := pm_stt_.findIdx? (fun q => q.1 == o && q.2.1 == idx)
def pm_sgf (o idx : Nat) : Option Nat := if o = 13 then (pm_sgf_.find? (fun q => q.1 == idx)).map (fun q => q.2.1) else none
def pm_sfn (w : Nat) : String × String := match w with
  | 0 => ("coder", "B")
  | 1 => ("value", "[B")
  | _ => ("COMPACT_STRINGS", "Z")
set_option maxRecDepth 100000 in
theorem pm_sgf_all : pm_sgf_.all (fun q => decide (pm_at q.2.2 = some (Cond.fieldLink "java/lang/String" q.1 "java/lang/String" (pm_sfn q.2.1).1 (pm_sfn q.2.1).2))) = true := by decide +kernel
theorem pm_sgf_ok {o idx w : Nat} (h : pm_sgf o idx = some w) : o = 13 ∧ Cond.fieldLink (pm_on o) idx "java/lang/String" (pm_sfn w).1 (pm_sfn w).2 ∈ pm_tb := by
  unfold pm_sgf at h
  split at h
  · rename_i ho
    subst ho
    cases hq : pm_sgf_.find? (fun q => q.1 == idx) with
    | none => rw [hq] at h; cases h
    | some q =>
      rw [hq] at h
      obtain ⟨a, b, c⟩ := q
      simp only [Option.map_some, Option.some.injEq] at h
      subst h
      have h2 : a = idx := by simpa using List.find?_some hq
      subst h2
      have h3 := List.all_eq_true.mp pm_sgf_all _ (List.mem_of_find?_eq_some hq)
      exact ⟨rfl, pm_at_tb (of_decide_eq_true h3) rfl⟩
  · cases h
