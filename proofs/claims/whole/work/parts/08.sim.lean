/-! CALLS OF THE PURE MACHINE, and every method by contract -/
def pm_ws (y : MethodName) (cc : ByteArray) (n : Nat) (rt : Option FieldType) : List Cond := Cond.code y cc n rt :: pm_tb
/-- every method d frames deep keeps its contract -/
def pm_All (Y : pm_Y) (l : Launch) (D : va_G) (ad : Nat → Nat) (cA : Nat → ClassId) (d : Nat) : Prop := ∀ (t : Nat) (As : List Value) (σ : pm_S) (Q : Option Value → pm_S → Prop) (sz : Nat) (y : MethodName) (cc : ByteArray) (n : Nat) (rt : Option FieldType) (o na oc : Nat), pm_m t = some (y, cc, n, rt, o, na, oc) → pm_call Y d t As σ Q → Met l y (pm_ws y cc n rt) (pm_rm d) (pm_Pre Y D ad cA sz As σ) (pm_Post Y D ad cA sz σ Q) 0 0 (va_A (pm_wd ad cA Y σ) sz)
theorem pm_goodIn (ws : List Cond) (h : ∀ w ∈ ws, w ∈ pm_tb) : GoodIn pm_tb ws := fun w hw => ⟨h w hw, good_of_word (List.mem_filter.mp (h w hw)).2⟩
theorem pm_cl_of {Y : pm_Y} (hY : Y.all pm_ckY = true) {k ci : Nat} {fl : List Nat} (h : Y[k]? = some (.inr (ci, fl))) : ∃ C T N, pm_cl[ci]? = some (C, T, N) := by
  have := List.all_eq_true.mp hY _ (List.mem_of_getElem? h)
  simp only [pm_ckY] at this
  split at this
  · rename_i C T N hc
    exact ⟨C, T, N, hc⟩
  · cases this
theorem pm_small {Y : pm_Y} {d t : Nat} {As : List Value} {σ : pm_S} {Q : Option Value → pm_S → Prop} {y : MethodName} {cc : ByteArray} {n : Nat} {rt : Option FieldType} {o na oc : Nat} (hm : pm_m t = some (y, cc, n, rt, o, na, oc)) (h : pm_call Y d t As σ Q) : n ≤ 20 := by
  cases d with
  | zero => exact h.elim
  | succ d =>
    obtain ⟨y', cc', n', rt', o', na', oc', h1, h2, h3, h4⟩ := h
    rw [hm] at h1
    simp only [Option.some.injEq, Prod.mk.injEq] at h1
    rw [h1.2.2.1]
    exact h3
section PMC
variable {p : Program} {l : Launch} {e : Env} {R : Room} {s : State} {m : MethodId} {args : Array Value} {below : List Frame} {meth : Method} {c : Code} {H : Heap} {locs : List Loc} {Z : State → Prop}
variable {cc : ByteArray} {pc n o : Nat} {ls : Array Slot} {D : va_G} {ad : Nat → Nat} {cA : Nat → ClassId} {A : Nat → Prop} {σ : pm_S} {L S : List Value} {i : Instr} {Y : pm_Y} {kc ks : Nat}
theorem pm_preU {σ0 : pm_S} {As : List Value} (hK : va_K D pm_cl (pm_tys cA) s) (hA : ∀ q, s.heap.size ≤ q → A q) (hX : pm_X ad A s s.heap) (hP : va_P D pm_cl (pm_wd ad cA Y σ) H) (hD : va_D A (pm_wd ad cA Y σ)) (hS : va_S A s.heap H locs) : ∀ U : State, U.heap = H → s.WarmedH U.vm → pm_Pre Y D ad cA H.size As σ (As.map (pm_tau ad)).toArray U := by
  intro U hU hW
  have hsub : ∀ q, va_A (pm_wd ad cA Y σ) H.size q → A q := by
    intro q h
    rcases h with ⟨k, e, h⟩ | h
    · exact hD.2 k (q, e) h
    · exact hA q (Nat.le_trans hS.1 h)
  refine ⟨rfl, by rw [hU], ⟨by rw [hU]; exact hP, va_K.moved hW.alike hK, hD.weaken (fun _ _ _ _ => trivial)⟩, ?_⟩
  rw [hU]
  exact ((hX.kept hS.2.1).narrow hsub).warm hW
theorem pm_sln_at {j : Nat} (h : j < 9) : (pm_sby.map List.length).getD j 0 = pm_sln j := by
  match j, h with
  | 0, _ => rfl
  | 1, _ => rfl
  | 2, _ => rfl
  | 3, _ => rfl
  | 4, _ => rfl
  | 5, _ => rfl
  | 6, _ => rfl
  | 7, _ => rfl
  | 8, _ => rfl
theorem pm_G5_W {N d : Nat} (hk : kc ≤ R.cells ∧ ks ≤ R.slots) (hx : p.tables.exec = Jvm.exec) (hb : c.code = cc) (hml : c.maxLocals = N) (hown : s.vm.findClass (pm_on o) = some m.cls) (hts : ∀ w ∈ pm_tb, w.before args s = true) (hK : va_K D pm_cl (pm_tys cA) s) (hA : ∀ q, s.heap.size ≤ q → A q) (hX : pm_X ad A s s.heap) (hR : d + 1 ≤ R.frames ∧ 40 * d + 40 ≤ R.locals) (hM : pm_All Y l D ad cA d) (hd : decode cc pc = .ok (i, n)) (h : pm_G5 (pm_call Y d) o i n (pm_Go Y kc ks p l e R s m args below meth c Z D ad cA A N) pc L S σ) : pm_Go Y kc ks p l e R s m args below meth c Z D ad cA A N pc L S σ := by
  intro hN H locs ls hP hD hS hl
  have hls : ls.size = N := hl.1.trans hN
  obtain ⟨-, hV, hZ, hRr⟩ := id hX
  rcases h with ⟨idx, j, h1, h2, h3, h4⟩ | ⟨idx, j, S', h1, h2, h3, h4, h5, h6⟩ | ⟨idx, j, S', h1, h2, h3, h4, h5, h6⟩ | ⟨j, x, S', h1, h2, h3, h4, h5, h6⟩ | ⟨j, S', h1, h2, h3, h4, h5⟩ | ⟨idx, h1, h2, h3, h4⟩ | ⟨idx, t', As, j, S', Q', h1, h2, h3, h4, h5, h6, h7, h8, h9⟩
  · subst h1; subst h2
    exact va_ldcS hx hb hown (hRr o idx j h3) hd (h4 hN H locs ls hP hD hS hl)
  · subst h1; subst h2; subst h3
    obtain ⟨-, q⟩ := pm_sgf_ok h5
    rw [List.map_cons]
    exact vk_getf hx hb (hV.1 j h4).2.1 hS hown (hts _ q) (fun x q => q) hd (h6 hN H locs ls hP hD hS hl)
  · subst h1; subst h2; subst h3
    obtain ⟨-, q⟩ := pm_sgf_ok h5
    rw [List.map_cons]
    exact vk_getf hx hb (hV.1 j h4).2.2.1 hS hown (hts _ q) (fun x q => q) hd (h6 hN H locs ls hP hD hS hl)
  · subst h1; subst h2; subst h3
    rw [List.map_cons, List.map_cons]
    exact va_tb hx hb (hV.1 j h4).2.2.2 hS (by rw [pm_sln_at h4]; exact h5) rfl hd (h6 hN H locs ls hP hD hS hl)
  · subst h1; subst h2; subst h3
    rw [List.map_cons]
    exact va_tlen hx hb (hV.1 j h4).2.2.2 hS (by rw [pm_sln_at h4]) hd (h5 hN H locs ls hP hD hS hl)
  · subst h1; subst h2
    obtain ⟨-, q⟩ := pm_sgf_ok h3
    exact va_gets hx hb hZ hS hown (hts _ q) (fun x q => q) hd (h4 hN H locs ls hP hD hS hl)
  · subst h1; subst h2; subst h4
    obtain ⟨y, b, n', r', na, e1, e2⟩ := h5
    obtain ⟨y0, b0, n0, r0, o0, na0, f1, f2, f3, f4, f5⟩ := pm_mt_0 h3
    rw [e1] at f1
    simp only [Option.some.injEq, Prod.mk.injEq] at f1
    obtain ⟨rfl, rfl, rfl, rfl, rfl, rfl, -⟩ := f1
    obtain ⟨g1, g2, g3, g4⟩ := pm_m_ok e1
    have hsm := pm_small e1 h8
    have hmet := hM t' (.ref (1100 + j) :: As) σ Q' H.size y b n' r' 13 na _ e1 h8
    have hrecv := vk_recv hV h6 hS
    have hstk : ((As.reverse ++ .ref (1100 + j) :: S').map (pm_tau ad)) = (As.map (pm_tau ad)).reverse ++ .ref (ad (1100 + j)) :: S'.map (pm_tau ad) := by
      rw [List.map_append, List.map_reverse]; rfl
    rw [hstk]
    refine pm_call_W hK hA hP hD hS hl hN (va_runV (C := pm_on 13) (b := ad (1100 + j)) (As := As.map (pm_tau ad)) (rest := S'.map (pm_tau ad)) ⟨hx, hb, hml, hown, hts⟩ hmet (cwV na hts (pm_goodIn _ (fun w hw => ?_)) rfl rfl rfl ⟨g2, g4.1, g4.2.1, g4.2.2⟩ ⟨hR.1, ?_⟩) ⟨pm_blind, hrecv, ?_⟩ rfl (by simpa using e2) hls rfl (lv_room (by rw [pm_sum_tau]; exact h7)) hd hk) h9
    · simp only [wsV, List.mem_append, List.mem_cons, List.not_mem_nil, or_false] at hw
      rcases hw with (rfl | rfl | rfl | rfl) | hw
      · exact f2
      · exact f3
      · exact f4
      · exact f5
      · rcases List.mem_cons.mp hw with rfl | hw
        · exact g1
        · exact hw
    · show 8 + (n' + 11) + 40 * d ≤ R.locals
      omega
    · exact pm_preU (As := .ref (1100 + j) :: As) (σ0 := σ) hK hA hX hP hD hS
theorem pm_G4_W {N d : Nat} (hY : Y.all pm_ckY = true) (hk : kc ≤ R.cells ∧ ks ≤ R.slots) (hx : p.tables.exec = Jvm.exec) (hb : c.code = cc) (hml : c.maxLocals = N) (hown : s.vm.findClass (pm_on o) = some m.cls) (hts : ∀ w ∈ pm_tb, w.before args s = true) (hK : va_K D pm_cl (pm_tys cA) s) (hA : ∀ q, s.heap.size ≤ q → A q) (hX : pm_X ad A s s.heap) (hR : d + 1 ≤ R.frames ∧ 40 * d + 40 ≤ R.locals) (hM : pm_All Y l D ad cA d) (hd : decode cc pc = .ok (i, n)) (h : pm_G4 Y (pm_call Y d) o i n (pm_Go Y kc ks p l e R s m args below meth c Z D ad cA A N) pc L S σ) : pm_Go Y kc ks p l e R s m args below meth c Z D ad cA A N pc L S σ := by
  intro hN H locs ls hP hD hS hl
  have hls : ls.size = N := hl.1.trans hN
  rcases h with ⟨idx, t', As, k, S', ci, fl, Q', h1, h2, h3, h4, h5, h6, h8, h9, h10⟩ | ⟨idx, t', As, S', Q', h1, h2, h3, h4, h5, h6, h7, h8⟩ | ⟨idx, x, y, S', h1, h2, h3, h4, h5, h6⟩ | ⟨idx, x, y, S', h1, h2, h3, h4, h5, h6⟩ | ⟨idx, x, y, S', h1, h2, h3, h4, h5, h6⟩ | ⟨idx, w, dp, sp, a, b, S', N1, M1, h1, h2, h3, h4, h5, h6, h7, h8, h9, h10, h11, h12, h13⟩ | h
  · subst h1; subst h2; subst h4
    obtain ⟨y, b, n', r', na, e1, e2⟩ := h5
    obtain ⟨y0, b0, n0, r0, o0, na0, f1, f2, f3, f4, f5⟩ := pm_mt_0 h3
    rw [e1] at f1
    simp only [Option.some.injEq, Prod.mk.injEq] at f1
    obtain ⟨rfl, rfl, rfl, rfl, rfl, rfl, -⟩ := f1
    obtain ⟨g1, g2, g3, g4⟩ := pm_m_ok e1
    obtain ⟨C, T, NN, hc⟩ := pm_cl_of hY h6
    obtain ⟨-, -, -, hC⟩ := pm_cl_ok hc
    have hsm := pm_small e1 h9
    have hmet := hM t' (.ref k :: As) σ Q' H.size y b n' r' ci na _ e1 h9
    have hrecv := va_recv hK hP hc (pm_wd_at_obj h6)
    have hstk : ((As.reverse ++ .ref k :: S').map (pm_tau ad)) = (As.map (pm_tau ad)).reverse ++ .ref (ad k) :: S'.map (pm_tau ad) := by
      rw [List.map_append, List.map_reverse]; rfl
    rw [hstk]
    refine pm_call_W hK hA hP hD hS hl hN (va_runV (C := pm_on ci) (b := ad k) (As := As.map (pm_tau ad)) (rest := S'.map (pm_tau ad)) ⟨hx, hb, hml, hown, hts⟩ hmet (cwV na hts (pm_goodIn _ (fun w hw => ?_)) rfl rfl rfl ⟨g2, g4.1, g4.2.1, g4.2.2⟩ ⟨hR.1, ?_⟩) ⟨pm_blind, ?_, ?_⟩ rfl (by simpa using e2) hls rfl (lv_room (by rw [pm_sum_tau]; exact h8)) hd hk) h10
    · simp only [wsV, List.mem_append, List.mem_cons, List.not_mem_nil, or_false] at hw
      rcases hw with (rfl | rfl | rfl | rfl) | hw
      · exact f2
      · exact f3
      · exact f4
      · exact f5
      · rcases List.mem_cons.mp hw with rfl | hw
        · exact g1
        · exact hw
    · show 8 + (n' + 11) + 40 * d ≤ R.locals
      omega
    · rw [← hC]; exact hrecv
    · exact pm_preU (As := .ref k :: As) (σ0 := σ) hK hA hX hP hD hS
  · subst h1; subst h2; subst h4
    obtain ⟨y, b, n', r', o', na, e1, e2⟩ := h5
    obtain ⟨y0, b0, n0, r0, o0, na0, f1, f2, f3, f5⟩ := pm_mt_1 h3
    rw [e1] at f1
    simp only [Option.some.injEq, Prod.mk.injEq] at f1
    obtain ⟨rfl, rfl, rfl, rfl, rfl, rfl, -⟩ := f1
    obtain ⟨g1, g2, g3, g4⟩ := pm_m_ok e1
    have hsm := pm_small e1 h7
    have hmet := hM t' As σ Q' H.size y b n' r' o' na _ e1 h7
    have hstk : ((As.reverse ++ S').map (pm_tau ad)) = (As.map (pm_tau ad)).reverse ++ S'.map (pm_tau ad) := by
      rw [List.map_append, List.map_reverse]
    rw [hstk]
    refine pm_call_W hK hA hP hD hS hl hN (va_runS (As := As.map (pm_tau ad)) (rest := S'.map (pm_tau ad)) ⟨hx, hb, hml, hown, hts⟩ hmet (va_cwS na hts (pm_goodIn _ (fun w hw => ?_)) rfl rfl rfl g4 ⟨hR.1, ?_⟩) ⟨pm_blind, ?_⟩ rfl (by simpa using e2) hls rfl (lv_room (by rw [pm_sum_tau]; exact h6)) hd hk) h8
    · simp only [va_wsS, List.mem_append, List.mem_cons, List.not_mem_nil, or_false] at hw
      rcases hw with (rfl | rfl | rfl) | hw
      · exact f2
      · exact f3
      · rw [g2]; exact f5
      · rcases List.mem_cons.mp hw with rfl | hw
        · exact g1
        · exact hw
    · show 8 + (n' + 11) + 40 * d ≤ R.locals
      omega
    · exact pm_preU (As := As) (σ0 := σ) hK hA hX hP hD hS
  · subst h1; subst h2; subst h4
    obtain ⟨q1, q2, q3, q4⟩ := pm_mt_2 h3
    rw [List.map_cons, List.map_cons]
    have hg := h6 hN H locs ls hP hD hS hl
    exact va_mmin hx hb (hml.trans hls.symm) hown (hts _ q1) (hts _ q2) (hts _ q4) (hts _ q3) (by omega) (by rw [pm_sum_tau]; omega) hk.1 hk.2 hd hg
  · subst h1; subst h2; subst h4
    obtain ⟨q1, q2, q3, q4⟩ := pm_mt_3 h3
    rw [List.map_cons, List.map_cons]
    have hg := h6 hN H locs ls hP hD hS hl
    exact va_mmax hx hb (hml.trans hls.symm) hown (hts _ q1) (hts _ q2) (hts _ q4) (hts _ q3) (by omega) (by rw [pm_sum_tau]; omega) hk.1 hk.2 hd hg
  · subst h1; subst h2; subst h4
    obtain ⟨q1, q2, q3, q4⟩ := pm_mt_5 h3
    rw [List.map_cons, List.map_cons]
    have hg := h6 hN H locs ls hP hD hS hl
    exact va_mmin_long hx hb (hml.trans hls.symm) hown (hts _ q1) (hts _ q2) (hts _ q4) (hts _ q3) (by omega) (by rw [pm_sum_tau]; omega) hk.1 hk.2 hd hg
  · subst h1; subst h2; subst h4
    obtain ⟨q1, q2, q3, q4⟩ := pm_mt_4 h3
    rw [List.map_cons, List.map_cons, List.map_cons, List.map_cons, List.map_cons]
    have hnw : nativeFrameWords "java/lang/System" "arraycopy" 5 ≤ 20 := by decide +kernel
    refine va_copyi hx hb (hml.trans hls.symm) hown (hts _ q1) (hts _ q3) (hts _ q2) (hts _ q4) hK hP hD hS a b 0 0 (pm_wd_at_arr h6 (by decide)) (pm_wd_at_arr h7 (by decide)) rfl rfl rfl h8 h9 h10 h11 h12 (fun _ _ => rfl) (by omega) (by rw [pm_sum_tau]; omega) hd (fun H1 locs1 e1 e2 e3 => ?_)
    rw [pm_wd_pr h7 (by decide)] at e1 e2
    exact h13 hN H1 locs1 ls e1 e2 e3 hl
  · exact pm_G5_W hk hx hb hml hown hts hK hA hX hR hM hd h hN H locs ls hP hD hS hl
end PMC
theorem pm_ar_len (ad : Nat → Nat) : ∀ As : List Value, (lg_sl (As.map (pm_tau ad))).length = (pm_ar As).length
  | [] => rfl
  | v :: vs => by
    have ih := pm_ar_len ad vs
    simp only [lg_sl, List.map_cons, List.flatMap_cons, List.length_append, pm_tau_cat] at ih ⊢
    rw [ih]
    cases hc : pm_c2 v with
    | true => simp [pm_ar, hc, pm_c2_t hc]; omega
    | false => simp [pm_ar, hc, pm_c2_f hc]; omega
theorem pm_ar_at (ad : Nat → Nat) : ∀ (As : List Value) (k i : Nat) (v : Value), (pm_ar As)[i]? = some v → v ≠ pm_jk → (k + i, pm_tau ad v) ∈ lv_args k (As.map (pm_tau ad))
  | [], k, i, v, h, _ => by simp [pm_ar] at h
  | u :: vs, k, i, v, h, hj => by
    have ih := pm_ar_at ad vs
    rw [List.map_cons]
    unfold lv_args
    rw [pm_tau_cat]
    cases hc : pm_c2 u with
    | true =>
      rw [if_pos (pm_c2_t hc)]
      simp only [pm_ar, hc, cond_true] at h
      match i, h with
      | 0, h => simp at h; subst h; exact List.mem_cons_self
      | 1, h => simp at h; exact absurd h.symm hj
      | i + 2, h =>
        have := ih (k + 2) i v (by simpa using h) hj
        rw [show k + (i + 2) = k + 2 + i by omega]
        exact List.mem_cons_of_mem _ this
    | false =>
      rw [if_neg (by rw [pm_c2_f hc]; decide)]
      simp only [pm_ar, hc, cond_false] at h
      match i, h with
      | 0, h => simp at h; subst h; exact List.mem_cons_self
      | i + 1, h =>
        have := ih (k + 1) i v (by simpa using h) hj
        rw [show k + (i + 1) = k + 1 + i by omega]
        exact List.mem_cons_of_mem _ this
theorem pm_en_len {n : Nat} {As : List Value} (h : (pm_ar As).length ≤ n) : (pm_en n As).length = n := by
  simp [pm_en]; omega
theorem pm_en_lh {ad : Nat → Nat} {n : Nat} {As : List Value} {ls : Array Slot} (h : (pm_ar As).length ≤ n) (hl : lv_has ls n (lv_args 0 (As.map (pm_tau ad)))) : pm_lh ad ls (pm_en n As) := by
  refine ⟨by rw [pm_en_len h]; exact hl.1, hl.2.1, fun i v hi hv => ?_⟩
  unfold pm_en at hi
  by_cases hlt : i < (pm_ar As).length
  · rw [List.getElem?_append_left hlt] at hi
    have := pm_ar_at ad As 0 i v hi hv
    rw [Nat.zero_add] at this
    exact hl.2.2 _ this
  · rw [List.getElem?_append_right (by omega)] at hi
    exact absurd (List.eq_of_mem_replicate (List.mem_of_getElem? hi)) hv
/-- THE METHODS: what the pure machine does, the machine does -/
theorem pm_sim {Y : pm_Y} (hY : Y.all pm_ckY = true) (l : Launch) (D : va_G) (ad : Nat → Nat) (cA : Nat → ClassId) : ∀ d, pm_All Y l D ad cA d
  | 0 => fun _ _ _ _ _ _ _ _ _ _ _ _ _ h => h.elim
  | d + 1 => by
    intro t As σ Q sz y cc n rt o na oc hm hcall
    have ihM := pm_sim hY l D ad cA d
    obtain ⟨y', cc', n', rt', o', na', oc', e1, e2, e3, e4⟩ := hcall
    rw [hm] at e1
    simp only [Option.some.injEq, Prod.mk.injEq] at e1
    obtain ⟨rfl, rfl, rfl, rfl, rfl, rfl, rfl⟩ := e1
    obtain ⟨g1, g2, g3, g4⟩ := pm_m_ok hm
    refine Met.ofW (cc := cc) (maxL := n) (ret := rt) g3 rfl ?_
    intro p e s m args below meth c s₁ B hml hv
    obtain ⟨rfl, hsz, ⟨hP, hK, hD0⟩, hX⟩ := hv
    have hx := B.exec
    have hb := B.bytes
    have hr := B.returns
    have hlocks := B.notSynchronized
    have hts0 := atoms_spec (ws := pm_ws y cc n rt) B.pre
    have hts : ∀ w ∈ pm_tb, w.before (As.map (pm_tau ad)).toArray s = true := fun w hw => hts0 w (List.mem_cons_of_mem _ hw)
    have hown : s.vm.findClass (pm_on o) = some m.cls := by rw [← g2]; exact findClass_of_methodNamed B.named
    subst hsz
    have hD := hD0.self (sz := s.heap.size)
    have hA : ∀ q : Nat, s.heap.size ≤ q → va_A (pm_wd ad cA Y σ) s.heap.size q := fun q h => Or.inr h
    have hl := lv_entry (As.map (pm_tau ad)) (n := n) (by rw [pm_ar_len]; exact e2)
    rw [lg_entry_eq]
    refine e4 (pm_Go Y 0 0 p l e (headSpec (pm_ws y cc n rt) (pm_rm (d + 1))).room s m (As.map (pm_tau ad)).toArray below meth c (MQ below (pm_Post Y D ad cA s.heap.size σ Q) (As.map (pm_tau ad)).toArray s 0 0 (va_A (pm_wd ad cA Y σ) s.heap.size)) D ad cA (va_A (pm_wd ad cA Y σ) s.heap.size) n) ?_ (pm_en_len e2) s.heap [] _ hP hD va_S.rf (pm_en_lh e2 hl)
    intro pc L S σ' hT
    obtain ⟨i, n1, q1, q2⟩ := hT
    rcases q2 with q2 | q2 | q2 | q2
    · exact pm_G1_W hx hb q1 q2
    · exact pm_G2_W hY hx hb hown hts hK q1 q2
    · exact pm_G3_W hx hb hown hts hr hlocks hX (fun r σ2 H locs hq hP hD hS t ht hw => ⟨⟨r, σ2, rfl, hq, by rw [ht]; exact hP, va_K.moved hw.alike hK, hD.weaken (fun _ _ _ _ => trivial)⟩, hS.F ht⟩) q1 q2
    · exact pm_G4_W hY ⟨Nat.zero_le _, Nat.zero_le _⟩ hx hb hml hown hts hK hA hX ⟨Nat.le_refl _, Nat.le_of_eq (by show 40 * d + 40 = 40 * (d + 1); omega)⟩ ihM q1 q2
