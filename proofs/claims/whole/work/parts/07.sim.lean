/-! THE PURE MACHINE RUNS AS THE MACHINE DOES -/
def pm_Xa (ad : Nat → Nat) (A : Nat → Prop) (U : State) (H : Heap) : Prop := ∀ (j : Nat) (f : List Int32) (C n d : String), pm_sa[j]? = some f → pm_sn[j]? = some (C, n, d) → va_Z C n d (.ref (ad (1000 + j))) A U H ∧ va_T .int (ad (1000 + j)) f.length (fun i => .int (f.getD i 0)) A U H
/-- statics and String constants: nobody writes them -/
def pm_X (ad : Nat → Nat) (A : Nat → Prop) (U : State) (H : Heap) : Prop := pm_Xa ad A U H ∧ vk_S 9 (pm_sby.map List.length) pm_sby (fun j => ad (1100 + j)) (fun j => ad (1200 + j)) A U H ∧ va_Z "java/lang/String" "COMPACT_STRINGS" "Z" (.int 1) A U H ∧ ∀ (o idx j : Nat), pm_stt o idx = some j → vk_R (pm_on o) idx (pm_stx.getD j "") (ad (1100 + j)) U
theorem pm_X.kept {ad : Nat → Nat} {A : Nat → Prop} {U : State} {H H1 : Heap} (h : pm_X ad A U H) (hq : ∀ a : Nat, a < H.size → ¬ A a → H1[a]? = H[a]?) : pm_X ad A U H1 := ⟨fun j f C n d h1 h2 => ⟨(h.1 j f C n d h1 h2).1.kept hq, (h.1 j f C n d h1 h2).2.kept hq⟩, h.2.1.kept hq, h.2.2.1.kept hq, h.2.2.2⟩
theorem pm_X.narrow {ad : Nat → Nat} {A B : Nat → Prop} {U : State} {H : Heap} (h : pm_X ad A U H) (hAB : ∀ q, B q → A q) : pm_X ad B U H := ⟨fun j f C n d h1 h2 => ⟨(h.1 j f C n d h1 h2).1.narrow hAB, (h.1 j f C n d h1 h2).2.narrow hAB⟩, h.2.1.narrow hAB, h.2.2.1.narrow hAB, h.2.2.2⟩
theorem pm_X.warm {ad : Nat → Nat} {A : Nat → Prop} {s U : State} {H : Heap} (hW : s.WarmedH U.vm) (h : pm_X ad A s H) : pm_X ad A U H := ⟨fun j f C n d h1 h2 => ⟨(h.1 j f C n d h1 h2).1.moved hW.alike, (h.1 j f C n d h1 h2).2.moved hW.alike⟩, h.2.1.moved hW.alike, h.2.2.1.moved hW.alike, fun o idx j e => (h.2.2.2 o idx j e).warm hW⟩
theorem pm_X.same {ad : Nat → Nat} {A : Nat → Prop} {s U : State} {H : Heap} (hv : U.vm = s.vm) (h : pm_X ad A s H) : pm_X ad A U H := by
  have hA : s.vm.Alike U.vm := by rw [hv]; exact Vm.Alike.refl _
  exact ⟨fun j f C n d h1 h2 => ⟨(h.1 j f C n d h1 h2).1.moved hA, (h.1 j f C n d h1 h2).2.moved hA⟩, h.2.1.moved hA, h.2.2.1.moved hA, fun o idx j e => (h.2.2.2 o idx j e).same hv⟩
abbrev pm_tys (cA : Nat → ClassId) : List (ClassId × FieldType) := [(cA 0, .int), (cA 1, .char), (cA 2, .boolean), (cA 3, .long)]
theorem pm_tys_at (cA : Nat → ClassId) {k : Nat} (h : k < 4) : (pm_tys cA)[k]? = some (cA k, pm_ty k) := by
  match k, h with
  | 0, _ => rfl
  | 1, _ => rfl
  | 2, _ => rfl
  | 3, _ => rfl
def pm_In (Y : pm_Y) (D : va_G) (ad : Nat → Nat) (cA : Nat → ClassId) (σ : pm_S) (U : State) : Prop := va_P D pm_cl (pm_wd ad cA Y σ) U.heap ∧ va_K D pm_cl (pm_tys cA) U ∧ va_D (fun _ => True) (pm_wd ad cA Y σ)
def pm_Pre (Y : pm_Y) (D : va_G) (ad : Nat → Nat) (cA : Nat → ClassId) (sz : Nat) (As : List Value) (σ : pm_S) : Array Value → State → Prop := va_Pc (As.map (pm_tau ad)) (fun U => U.heap.size = sz ∧ pm_In Y D ad cA σ U ∧ pm_X ad (va_A (pm_wd ad cA Y σ) sz) U U.heap)
def pm_Post (Y : pm_Y) (D : va_G) (ad : Nat → Nat) (cA : Nat → ClassId) (sz : Nat) (σ : pm_S) (Q : Option Value → pm_S → Prop) : Array Value → State → Outcome → State → Prop := fun _ st oc t => (∃ r σ', oc = .returned (r.map (pm_tau ad)) ∧ Q r σ' ∧ pm_In Y D ad cA σ' t) ∧ va_F (va_A (pm_wd ad cA Y σ) sz) st t
def pm_rm (d : Nat) : Room := { frames := d, cells := 0, slots := 0, locals := 40 * d }
theorem pm_blind {Y : pm_Y} {D : va_G} {ad : Nat → Nat} {cA : Nat → ClassId} {sz : Nat} {As : List Value} {σ : pm_S} : FrameBlind (pm_Pre Y D ad cA sz As σ) := by
  intro a U g mk h
  obtain ⟨h1, h2, ⟨h3, h4, h5⟩, h6⟩ := h
  exact ⟨h1, h2, ⟨h3, va_K.moved (u := U) (U := U.calling g mk a) (Vm.Alike.refl U.vm) h4, h5⟩, pm_X.same (s := U) (U := U.calling g mk a) rfl h6⟩
/-- of the layout: fields of kinds 0 and 1 aren't final; elements' kinds are below 4; an object's class is that of its place -/
def pm_ckY (c : (Nat × Nat) ⊕ (Nat × List Nat)) : Bool := match c with
  | .inl (t, _) => decide (t < 4)
  | .inr (ci, fl) => match pm_cl[ci]? with
    | some (_, T, N) => decide (fl.length = N) && (List.range N).all (fun j => decide (1 < fl.getD j 9) || !(T j).2.2.2)
    | none => false
theorem pm_Y0_ok : pm_Y0.all pm_ckY = true := by decide +kernel
theorem pm_Yk {Y : pm_Y} (hY : Y.all pm_ckY = true) {k t N : Nat} (h : Y[k]? = some (.inl (t, N))) : t < 4 := by
  have := List.all_eq_true.mp hY _ (List.mem_of_getElem? h)
  simpa [pm_ckY] using this
theorem pm_finQ {Y : pm_Y} (hY : Y.all pm_ckY = true) {k ci j f : Nat} {fl : List Nat} {C : String} {T : u_T} {N : Nat} (h1 : pm_cl[ci]? = some (C, T, N)) (h2 : Y[k]? = some (.inr (ci, fl))) (h3 : fl[j]? = some f) (hf : f < 2) : (T j).2.2.2 = false := by
  have := List.all_eq_true.mp hY _ (List.mem_of_getElem? h2)
  simp only [pm_ckY, h1, Bool.and_eq_true, decide_eq_true_eq] at this
  have hj : j < fl.length := (List.getElem?_eq_some_iff.mp h3).1
  have h4 := List.all_eq_true.mp this.2 j (List.mem_range.mpr (by rw [← this.1]; exact hj))
  have h5 : fl.getD j 9 = f := by rw [List.getD_eq_getElem?_getD, h3]; rfl
  rw [h5] at h4
  simp only [Bool.or_eq_true, decide_eq_true_eq, Bool.not_eq_true'] at h4
  rcases h4 with h4 | h4
  · omega
  · exact h4
theorem pm_sa_of {j : Nat} {q : String × String × String} (h : pm_sn[j]? = some q) : ∃ f, pm_sa[j]? = some f := by
  have h1 : j < 5 := (List.getElem?_eq_some_iff.mp h).1
  have h2 : j < pm_sa.length := h1
  exact ⟨_, List.getElem?_eq_getElem h2⟩
theorem pm_sn_of {j : Nat} {f : List Int32} (h : pm_sa[j]? = some f) : ∃ q, pm_sn[j]? = some q := by
  have h1 : j < 5 := (List.getElem?_eq_some_iff.mp h).1
  have h2 : j < pm_sn.length := h1
  exact ⟨_, List.getElem?_eq_getElem h2⟩
section PMS
variable {p : Program} {l : Launch} {e : Env} {R : Room} {s : State} {m : MethodId} {args : Array Value} {below : List Frame} {meth : Method} {c : Code} {H : Heap} {locs : List Loc} {Z : State → Prop}
variable {cc : ByteArray} {pc n o : Nat} {ls : Array Slot} {D : va_G} {ad : Nat → Nat} {cA : Nat → ClassId} {A : Nat → Prop} {σ : pm_S} {L S : List Value} {i : Instr} {Ts : List Cond} {Y : pm_Y} {kc ks : Nat}
/-- what the machine does from a state of the pure machine on -/
def pm_Go (Y : pm_Y) (kc ks : Nat) (p : Program) (l : Launch) (e : Env) (R : Room) (s : State) (m : MethodId) (args : Array Value) (below : List Frame) (meth : Method) (c : Code) (Z : State → Prop) (D : va_G) (ad : Nat → Nat) (cA : Nat → ClassId) (A : Nat → Prop) (N : Nat) : pm_N := fun pc L S σ => L.length = N → ∀ (H : Heap) (locs : List Loc) (ls : Array Slot), va_P D pm_cl (pm_wd ad cA Y σ) H → va_D A (pm_wd ad cA Y σ) → va_S A s.heap H locs → pm_lh ad ls L → W p l e R s m args below meth c H locs kc ks Z (F0 m pc ls (S.map (pm_tau ad)))
theorem pm_sto_len {kd j : Nat} {v : Value} : (pm_sto kd L j v).length = L.length := by
  unfold pm_sto
  cases kd == 1 <;> simp [pm_st_len, pm_st2_len]
theorem pm_G1_W {N : Nat} (hx : p.tables.exec = Jvm.exec) (hb : c.code = cc) (hd : decode cc pc = .ok (i, n)) (h : pm_G1 i n (pm_Go Y kc ks p l e R s m args below meth c Z D ad cA A N) pc L S σ) : pm_Go Y kc ks p l e R s m args below meth c Z D ad cA A N pc L S σ := by
  intro hN H locs ls hP hD hS hl
  rcases h with ⟨S', h1, h2⟩ | ⟨cd, S', h1, h2, h3, h4⟩ | ⟨kd, j, v, h1, h2, h3, h4⟩ | ⟨kd, j, v, S', h1, h2, h3, h4, h5⟩ | ⟨j, d, x, h1, h2, h3, h4⟩ | ⟨cd, off, S', tgt, h1, h2, h3, h4, h5⟩ | ⟨off, tgt, h1, h2, h3, h4⟩ | ⟨d, lo, hi, offs, x, S', off, tgt, h1, h2, h3, h4, h5⟩ | ⟨d, ps, x, S', off, tgt, h1, h2, h3, h4, h5, h6⟩
  · exact pm_alu_W hx hb hd h1 (h2 hN H locs ls hP hD hS hl)
  · subst h2
    exact pm_dv_W hx hb hd h1 h3 (h4 hN H locs ls hP hD hS hl)
  · exact pm_ld_W hx hb hd h1 hl h2 h3 (h4 hN H locs ls hP hD hS hl)
  · subst h2
    exact pm_sr_W hx hb hd h1 hl h3 h4 (fun ls' hl' => h5 (by rw [pm_sto_len]; exact hN) H locs ls' hP hD hS hl')
  · subst h1; subst h2
    exact pm_inc_W hx hb hd hl h3 (fun ls' hl' => h4 (by rw [pm_st_len]; exact hN) H locs ls' hP hD hS hl')
  · subst h2
    exact pm_br_W hx hb hd h1 h3 (fun q => h4 q hN H locs ls hP hD hS hl) (fun q => h5 q hN H locs ls hP hD hS hl)
  · subst h1; subst h2
    exact lv_goto hx hb hd h3 (h4 hN H locs ls hP hD hS hl)
  · subst h1; subst h2
    rw [List.map_cons]
    rcases h3 with ⟨a, rfl⟩ | ⟨a, b, b2⟩
    · exact lv_tableOut hx hb hd a h4 (h5 hN H locs ls hP hD hS hl)
    · exact lv_tableIn hx hb hd a b b2 h4 (h5 hN H locs ls hP hD hS hl)
  · subst h1; subst h2
    rw [List.map_cons]
    exact lv_lookup hx hb hd h3 h4 h5 (h6 hN H locs ls hP hD hS hl)
theorem pm_al_lt {a : Nat} (h : pm_al i = some a) : a < 3 := by
  unfold pm_al at h
  split at h <;> cases h <;> decide
theorem pm_aw_lt {a : Nat} (h : pm_aw i = some a) : a < 3 := by
  unfold pm_aw at h
  split at h <;> cases h <;> decide
theorem pm_G2_W {N : Nat} (hY : Y.all pm_ckY = true) (hx : p.tables.exec = Jvm.exec) (hb : c.code = cc) (hown : s.vm.findClass (pm_on o) = some m.cls) (hts : ∀ w ∈ pm_tb, w.before args s = true) (hK : va_K D pm_cl (pm_tys cA) s) (hd : decode cc pc = .ok (i, n)) (h : pm_G2 Y o i n (pm_Go Y kc ks p l e R s m args below meth c Z D ad cA A N) pc L S σ) : pm_Go Y kc ks p l e R s m args below meth c Z D ad cA A N pc L S σ := by
  intro hN H locs ls hP hD hS hl
  rcases h with ⟨idx, k, S', ci, j, fl, g, h1, h2, h3, h4, h5, h6, h7⟩ | ⟨idx, k, x, S', ci, j, fl, h1, h2, h3, h4, h5, h6, h7, h8⟩ | ⟨idx, k, x, S', ci, j, fl, h1, h2, h3, h4, h5, h6, h7, h8⟩ | ⟨a, k, x, S', M, h1, h2, h3, h4, h5, h6⟩ | ⟨a, k, x, v, S', M, h1, h2, h3, h4, h5, h6⟩ | ⟨k, x, S', M, h1, h2, h3, h4, h5, h6⟩ | ⟨k, x, v, S', M, h1, h2, h3, h4, h5, h6⟩ | ⟨a, k, S', M, h1, h2, h3, h4, h5⟩
  · subst h1; subst h2; subst h3
    obtain ⟨C, T, M, q1, q2, q3⟩ := pm_fd_ok h4
    obtain ⟨c1, c2, c3, c4⟩ := pm_cl_ok q1
    have hg := h7 hN H locs ls hP hD hS hl
    rw [List.map_cons, pm_fp_tau] at hg
    rw [List.map_cons]
    exact va_get hx hb hts c1 hown hK hP k (pm_wd_at_obj h5) q1 j q2 (hts _ q3) (fun x q => q) (pm_fl_at h6) hd hg
  · subst h1; subst h2; subst h3
    obtain ⟨C, T, M, q1, q2, q3⟩ := pm_fd_ok h4
    obtain ⟨c1, c2, c3, c4⟩ := pm_cl_ok q1
    rw [List.map_cons, List.map_cons]
    have hlen : j < (fl.mapIdx (fun j f => pm_fv ad σ k j f)).length := by simpa using (List.getElem?_eq_some_iff.mp h6).1
    have hfin : (T j).2.2.2 = false := pm_finQ hY q1 h5 h6 (by decide)
    refine va_put hx hb hts c1 (pm_ft ci) c2 c3 hown hK hP hD hS k (pm_wd_at_obj h5) q1 j q2 (hts _ q3) (fun x q => q) hfin (c2 j q2) h7.1 h7.2 hlen hd (fun H1 locs1 e1 e2 e3 => ?_)
    rw [show pm_tau ad (Value.int x) = Value.int x from rfl, pm_wd_pi h5 h6] at e1 e2
    exact h8 hN H1 locs1 ls e1 e2 e3 hl
  · subst h1; subst h2; subst h3
    obtain ⟨C, T, M, q1, q2, q3⟩ := pm_fd_ok h4
    obtain ⟨c1, c2, c3, c4⟩ := pm_cl_ok q1
    rw [List.map_cons, List.map_cons]
    have hlen : j < (fl.mapIdx (fun j f => pm_fv ad σ k j f)).length := by simpa using (List.getElem?_eq_some_iff.mp h6).1
    have hfin : (T j).2.2.2 = false := pm_finQ hY q1 h5 h6 (by decide)
    refine va_put hx hb hts c1 (pm_ft ci) c2 c3 hown hK hP hD hS k (pm_wd_at_obj h5) q1 j q2 (hts _ q3) (fun x q => q) hfin (c2 j q2) (by rw [h7]; rfl) (by rw [h7]; rfl) hlen hd (fun H1 locs1 e1 e2 e3 => ?_)
    rw [show pm_tau ad (Value.long x) = Value.long x from rfl, pm_wd_pl h5 h6] at e1 e2
    exact h8 hN H1 locs1 ls e1 e2 e3 hl
  · subst h2; subst h3
    rw [List.map_cons, List.map_cons]
    have hg := h6 hN H locs ls hP hD hS hl
    unfold pm_al at h1
    split at h1 <;> cases h1
    · exact va_iald hx hb hK hP k 0 (pm_wd_at_arr h4 (by decide)) rfl h5 hd hg
    · exact va_cald hx hb hK hP k 1 (pm_wd_at_arr h4 (by decide)) rfl h5 hd hg
    · exact va_zald hx hb hK hP k 2 (pm_wd_at_arr h4 (by decide)) rfl h5 hd hg
  · subst h2; subst h3
    rw [List.map_cons, List.map_cons, List.map_cons]
    unfold pm_aw at h1
    split at h1 <;> cases h1
    · refine va_iast hx hb hK hP hD hS k 0 (pm_wd_at_arr h4 (by decide)) rfl h5 hd (fun H1 locs1 e1 e2 e3 => ?_)
      rw [pm_wd_pr h4 (by decide)] at e1 e2
      exact h6 hN H1 locs1 ls e1 e2 e3 hl
    · refine va_cast hx hb hK hP hD hS k 1 (pm_wd_at_arr h4 (by decide)) rfl h5 hd (fun H1 locs1 e1 e2 e3 => ?_)
      rw [pm_wd_pr h4 (by decide)] at e1 e2
      exact h6 hN H1 locs1 ls e1 e2 e3 hl
    · refine va_zast hx hb hK hP hD hS k 2 (pm_wd_at_arr h4 (by decide)) rfl h5 hd (fun H1 locs1 e1 e2 e3 => ?_)
      rw [pm_wd_pr h4 (by decide)] at e1 e2
      exact h6 hN H1 locs1 ls e1 e2 e3 hl
  · subst h1; subst h2; subst h3
    rw [List.map_cons, List.map_cons]
    exact va_lald hx hb hK hP k 3 (pm_wd_at_larr h4) rfl h5 hd (h6 hN H locs ls hP hD hS hl)
  · subst h1; subst h2; subst h3
    rw [List.map_cons, List.map_cons, List.map_cons]
    refine va_last hx hb hK hP hD hS k 3 (pm_wd_at_larr h4) rfl h5 hd (fun H1 locs1 e1 e2 e3 => ?_)
    rw [pm_wd_plr h4] at e1 e2
    exact h6 hN H1 locs1 ls e1 e2 e3 hl
  · subst h1; subst h2; subst h3
    rw [List.map_cons]
    have ha4 : a < 4 := pm_Yk hY h4
    exact va_alen hx hb hK hP k a (pm_wd_at h4) (pm_tys_at cA ha4) rfl hd (h5 hN H locs ls hP hD hS hl)
theorem pm_G3_W {N : Nat} {rt : Option FieldType} {Q : Option Value → pm_S → Prop} {Qc : Array Value → State → Outcome → State → Prop} (hx : p.tables.exec = Jvm.exec) (hb : c.code = cc) (hown : s.vm.findClass (pm_on o) = some m.cls) (hts : ∀ w ∈ pm_tb, w.before args s = true) (hr : meth.sig.returnType = rt) (hlocks : meth.locks = false) (hX : pm_X ad A s s.heap) (hQ : ∀ (r : Option Value) (σ : pm_S) (H : Heap) (locs : List Loc), Q r σ → va_P D pm_cl (pm_wd ad cA Y σ) H → va_D A (pm_wd ad cA Y σ) → va_S A s.heap H locs → ∀ t : State, t.heap = H → s.WarmedH t.vm → Qc args s (.returned (r.map (pm_tau ad))) t) (hd : decode cc pc = .ok (i, n)) (h : pm_G3 o rt i n (pm_Go Y kc ks p l e R s m args below meth c (MQ below Qc args s kc ks A) D ad cA A N) Q pc L S σ) : pm_Go Y kc ks p l e R s m args below meth c (MQ below Qc args s kc ks A) D ad cA A N pc L S σ := by
  intro hN H locs ls hP hD hS hl
  have hend : ∀ (r : Option Value), Q r σ → ∀ t : State, t.heap = H → s.WarmedH t.vm → Qc args s (.returned (r.map (pm_tau ad))) t := fun r hq t ht hw => hQ r σ H locs hq hP hD hS t ht hw
  rcases h with ⟨idx, v, h1, h2, h3, h4⟩ | ⟨idx, v, h1, h2, h3, h4⟩ | ⟨idx, j, h1, h2, h3, h4⟩ | ⟨j, x, S', ff, h1, h2, h3, h4, h5, h6⟩ | ⟨j, S', ff, h1, h2, h3, h4, h5⟩ | ⟨v, h1, h2, h3, h4, h5⟩ | ⟨v, h1, h2, h3, h4, h5⟩ | ⟨k, h1, h2, h3, h4, h5⟩ | ⟨h1, h2, h3, h4, h5⟩
  · subst h1; subst h2
    exact lv_ldc hx hb hown (hts _ (pm_ct_ok h3)) hd (h4 hN H locs ls hP hD hS hl)
  · subst h1; subst h2
    exact lv_ldc2 hx hb hown (hts _ (pm_ctl_ok h3)) hd (h4 hN H locs ls hP hD hS hl)
  · subst h1; subst h2
    obtain ⟨C, nm, ds, q1, q2⟩ := pm_sf_ok h3
    obtain ⟨f, hf⟩ := pm_sa_of q1
    exact va_gets hx hb (hX.1 j f C nm ds hf q1).1 hS hown (hts _ q2) (fun x q => q) hd (h4 hN H locs ls hP hD hS hl)
  · subst h1; subst h2; subst h3
    obtain ⟨⟨C, nm, ds⟩, q1⟩ := pm_sn_of h4
    rw [List.map_cons, List.map_cons]
    exact va_ti hx hb (hX.1 j ff C nm ds h4 q1).2 hS h5 rfl hd (h6 hN H locs ls hP hD hS hl)
  · subst h1; subst h2; subst h3
    obtain ⟨⟨C, nm, ds⟩, q1⟩ := pm_sn_of h4
    rw [List.map_cons]
    exact va_tlen hx hb (hX.1 j ff C nm ds h4 q1).2 hS rfl hd (h5 hN H locs ls hP hD hS hl)
  · subst h1; subst h2; subst h3
    obtain ⟨ty, q1, q2⟩ := h4
    exact W.zret hx hb (hr.trans q1) q2 (hend _ h5) hS.2.2 hd hlocks
  · subst h1; subst h2; subst h3
    exact W.lret hx hb (hr.trans h4) (hend _ h5) hS.2.2 hd hlocks
  · subst h1; subst h2; subst h3
    obtain ⟨ty, q1, q2⟩ := h4
    exact W.aret hx hb (hr.trans q1) q2 (Or.inr ⟨_, rfl⟩) (hend _ h5) hS.2.2 hd hlocks
  · subst h1; subst h2; subst h3
    exact W.vret hx hb (hr.trans h4) (hend _ h5) hS.2.2 hd hlocks
/-- behind a call by contract -/
theorem pm_call_W {N : Nat} {v0 : List Value} {rest : List Value} {Q' : Option Value → pm_S → Prop} {a : Array Value} (hK : va_K D pm_cl (pm_tys cA) s) (hA : ∀ q, s.heap.size ≤ q → A q) (hP : va_P D pm_cl (pm_wd ad cA Y σ) H) (hD : va_D A (pm_wd ad cA Y σ)) (hS : va_S A s.heap H locs) (hl : pm_lh ad ls L) (hN : L.length = N)
    (hr : va_Run p l e R s m args below meth c H locs kc ks 0 0 (F0 m pc ls v0) (rest.map (pm_tau ad)) (pm_Post Y D ad cA H.size σ Q' a) (va_A (pm_wd ad cA Y σ) H.size))
    (kk : ∀ r σ', Q' r σ' → pm_Go Y kc ks p l e R s m args below meth c Z D ad cA A N (pc + 3) L (r.toList ++ rest) σ') : W p l e R s m args below meth c H locs kc ks Z (F0 m pc ls v0) := by
  have hsub : ∀ q, va_A (pm_wd ad cA Y σ) H.size q → A q := by
    intro q h
    rcases h with ⟨k, e, h⟩ | h
    · exact hD.2 k (q, e) h
    · exact hA q (Nat.le_trans hS.1 h)
  intro T hT X
  obtain ⟨v, st₀, t, T', LL, h0, X', hL, e1, e2, ⟨⟨r, σ', hv, hq, hI1, hI2, hI3⟩, hz, hk⟩, st⟩ := hr T hT X
  cases hv
  rw [h0] at hz hk
  have hS1 : va_S A s.heap T'.heap (locs ++ LL) := ⟨Nat.le_trans hS.1 (by rw [e1]; exact hz), fun q h1 h2 => by rw [e1, hk q (Nat.lt_of_lt_of_le h1 hS.1) (fun z => h2 (hsub q z))]; exact hS.2.1 q h1 h2, fun q hq => by
      rcases List.mem_append.mp hq with h | h
      · exact hS.2.2 q h
      · exact hsub _ (hL q h)⟩
  obtain ⟨t2, a1, b1⟩ := kk r σ' hq hN T'.heap (locs ++ LL) ls (by rw [e1]; exact hI1) (pm_wd_D hD) hS1 hl T' rfl X'
  refine ⟨t2, st t2 ?_, b1⟩
  have e : ((r.map (pm_tau ad)).toList ++ rest.map (pm_tau ad)) = (r.toList ++ rest).map (pm_tau ad) := by cases r <;> simp
  rw [e]
  exact a1
end PMS
