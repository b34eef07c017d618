/-! CONSTRUCTORS by contract: ws0 the cells that it gets, wf u the cells behind it, u the addresses of the new ones -/
def cn_Pre (sd : Nat → Nat) (D : va_G) (cA : Nat → ClassId) (ws0 : va_W) (sz : Nat) (As : List Value) : Array Value → State → Prop := va_Pc As (fun U => U.heap.size = sz ∧ va_P D pm_cl ws0 U.heap ∧ va_K D pm_cl (pm_tys cA) U ∧ va_D (fun _ => True) ws0 ∧ pm_X sd (va_A ws0 sz) U U.heap)
def cn_Post (D : va_G) (cA : Nat → ClassId) (ws0 : va_W) (sz : Nat) (wf : List Nat → va_W) (len : Nat) : Array Value → State → Outcome → State → Prop := fun _ st oc t => (∃ u : List Nat, u.length = len ∧ oc = .returned none ∧ va_P D pm_cl (wf u) t.heap ∧ va_K D pm_cl (pm_tys cA) t ∧ va_D (va_A ws0 sz) (wf u)) ∧ va_F (va_A ws0 sz) st t
theorem cn_blind {sd : Nat → Nat} {D : va_G} {cA : Nat → ClassId} {ws0 : va_W} {sz : Nat} {As : List Value} : FrameBlind (cn_Pre sd D cA ws0 sz As) := by
  intro a U g mk h
  obtain ⟨h1, h2, h3, h4, h5, h6⟩ := h
  exact ⟨h1, h2, h3, va_K.moved (u := U) (U := U.calling g mk a) (Vm.Alike.refl U.vm) h4, h5, pm_X.same (s := U) (U := U.calling g mk a) rfl h6⟩
theorem cn_met {sd : Nat → Nat} {l : Launch} {D : va_G} {cA : Nat → ClassId} {ws0 : va_W} {sz t : Nat} {As : List Value} {wf : List Nat → va_W} {len mc ms : Nat} {rm : Room} {y : MethodName} {cc : ByteArray} {n o na oc : Nat} (hm : pm_m t = some (y, cc, n, none, o, na, oc)) (hname : y.name = "<init>") (hlen : (pm_ar As).length ≤ n)
    (body : ∀ (p : Program) (e : Env) (s : State) (m : MethodId) (below : List Frame) (meth : Method) (c : Code), s.heap.size = sz → meth.locks = false → meth.sig.returnType = none → cg_Cx sd True p rm s m As.toArray meth c D cA (va_A ws0 sz) o cc n → cg_Go p l e rm s m As.toArray below meth c (MQ below (cn_Post D cA ws0 sz wf len) As.toArray s mc ms (va_A ws0 sz)) D (va_A ws0 sz) n 0 0 ws0 0 (pm_en n As) []) :
    Met l y (pm_ws y cc n none) rm (cn_Pre sd D cA ws0 sz As) (cn_Post D cA ws0 sz wf len) mc ms (va_A ws0 sz) := by
  obtain ⟨g1, g2, g3, g4⟩ := pm_m_ok hm
  refine Met.ofW (cc := cc) (maxL := n) (ret := none) g3 rfl ?_
  intro p e s m args below meth c s₁ B hml hv
  obtain ⟨rfl, hsz, hP, hK, hD0, hX⟩ := hv
  have hts0 := atoms_spec (ws := pm_ws y cc n none) B.pre
  have hts : ∀ w ∈ pm_tb, w.before As.toArray s = true := fun w hw => hts0 w (List.mem_cons_of_mem _ hw)
  have hown : s.vm.findClass (pm_on o) = some m.cls := by rw [← g2]; exact findClass_of_methodNamed B.named
  have hin : meth.name = "<init>" := (name_of_methodNamed B.named B.method).1.trans hname
  subst hsz
  have hD := hD0.self (sz := s.heap.size)
  have hl := lv_entry As (n := n) (by have := pm_ar_len (fun q => q) As; rw [cg_map] at this; rw [this]; exact hlen)
  rw [lg_entry_eq]
  refine body p e s m below meth c rfl B.notSynchronized B.returns ⟨B.exec, B.bytes, hml, hown, hts, hK, fun q h => Or.inr h, fun _ => hin, hX⟩ (pm_en_len hlen) s.heap [] _ hP hD va_S.rf (pm_en_lh hlen ?_)
  rw [cg_map]
  exact hl
section CH
variable {p : Program} {l : Launch} {e : Env} {R : Room} {s : State} {m : MethodId} {args : Array Value} {below : List Frame} {meth : Method} {c : Code} {Z : State → Prop} {D : va_G} {cA : Nat → ClassId} {A : Nat → Prop}
variable {cc : ByteArray} {o n pc : Nat} {ws ws0 : va_W} {kc ks sz : Nat} {L S S' : List Value} {N : Nat} {sd : Nat → Nat} {I : Prop}
theorem cg_rv (cx : cg_Cx sd I p R s m args meth c D cA (va_A ws0 sz) o cc N) {wf : List Nat → va_W} {len : Nat} (hsz : s.heap.size = sz) (hlocks : meth.locks = false) (hr : meth.sig.returnType = none) (u : List Nat) (hu : u.length = len) (is : List Nat) (hn : va_nd is = true) (h1 : is.map (fun i => ws[i]?) = (wf u).map some) (hd : decode cc pc = .ok (.return_, 1)) : cg_Go p l e R s m args below meth c (MQ below (cn_Post D cA ws0 sz wf len) args s kc ks (va_A ws0 sz)) D (va_A ws0 sz) N kc ks ws pc L [] := by
  refine cg_perm is hn h1 ?_
  obtain ⟨c1, c2, c3, c4, c5, c6, c7, c8⟩ := cx
  intro hN H locs ls hP hD hS hl
  refine W.vret c1 c2 hr (fun t ht hw => ⟨⟨u, hu, rfl, by rw [ht]; exact hP, va_K.moved hw.alike c6, hD⟩, hS.F ht⟩) hS.2.2 hd hlocks
/-- a constructor is called: the cells at isC are its, those at isR stay -/
theorem cg_ci (cx : cg_Cx sd I p R s m args meth c D cA A o cc N) (pc' : Nat) (isC isR : List Nat) {ws0 wr : va_W} {wf : List Nat → va_W} {len mc ms idx t b : Nat} (As : List Value) {rm : Room} {y : MethodName} {bb : ByteArray} {n' o' na oc : Nat} (hm : pm_m t = some (y, bb, n', none, o', na, oc)) (hname : y.name = "<init>")
    (hM : ∀ sz, Met l y (pm_ws y bb n' none) rm (cn_Pre sd D cA ws0 sz (.ref b :: As)) (cn_Post D cA ws0 sz wf len) mc ms (va_A ws0 sz)) (hC : isC.map (fun i => ws[i]?) = ws0.map some) (hR1 : isR.map (fun i => ws[i]?) = wr.map some) (hn1 : va_nd isC = true) (hn2 : va_nd isR = true) (hdis : ∀ i ∈ isR, i ∉ isC) (q1 : Cond.methodLink (pm_on o) idx y ∈ pm_tb) (q2 : Cond.instanceMethod y ∈ pm_tb) (q3 : Cond.initialized (pm_on o') ∈ pm_tb) (hrc : rm.cells = mc ∧ rm.slots = ms) (hd : decode cc pc = .ok (.invokespecial idx, 3)) (hs : S = As.reverse ++ .ref b :: S') (hn : As.length = na) (h8 : (S'.map fun v => v.category).sum ≤ 8) (hR : rm.frames + 1 ≤ R.frames ∧ 8 + (n' + 11) + rm.locals ≤ R.locals) (hf : kc + mc ≤ R.cells ∧ ks + ms ≤ R.slots) (hp : pc + 3 = pc')
    (k : ∀ u : List Nat, u.length = len → cg_Go p l e R s m args below meth c Z D A N (kc + mc) (ks + ms) (wr ++ wf u) pc' L S') : cg_Go p l e R s m args below meth c Z D A N kc ks ws pc L S := by
  subst hp; subst hs
  obtain ⟨c1, c2, c3, c4, c5, c6, c7, c8⟩ := cx
  obtain ⟨g1, g2, g3, g4⟩ := pm_m_ok hm
  intro hN H locs ls hP hD hS hl
  have hPc := hP
  have hPsub : va_P D pm_cl ws0 H := by
    intro k q hk
    have h1 : (isC.map (fun i => ws[i]?))[k]? = some (some q) := by rw [hC, List.getElem?_map, hk]; rfl
    rw [List.getElem?_map] at h1
    cases hi : isC[k]? with
    | none => rw [hi] at h1; cases h1
    | some i => rw [hi] at h1; exact hP i q (Option.some.inj h1)
  have hDsub := hD.sub isC hn1 hC
  have hFc := va_free hD hS c7 isC hC
  have hrun := va_runI (p := p) (l := l) (e := e) (R := R) (below := below) (meth := meth) (H := H) (cells := kc) (slots := ks) (locs := locs) (g := F0 m pc ls (As.reverse ++ .ref b :: S')) (As := As) (rest := S') (b := b) ⟨c1, c2, c3, c4, c5⟩ (hM H.size) ⟨callB_of na c5 (pm_goodIn _ (fun w hw => by
      rcases List.mem_cons.mp hw with rfl | hw
      · exact g1
      · exact hw)) rfl hrc.1 hrc.2 (c5 _ (by rw [g2]; exact q3)) (c5 _ q1) g4 hR, hname, c5 _ q2⟩ ⟨cn_blind, fun U hU hW => ⟨rfl, by rw [hU], by rw [hU]; exact hPsub, va_K.moved hW.alike c6, hDsub.weaken (fun _ _ _ _ => trivial), by rw [hU]; exact ((c8.2.kept hS.2.1).narrow hFc).warm hW⟩⟩ rfl hn (by show ls.size = _; rw [hl.1, hN]) rfl (lv_room h8) hd hf
  intro T hT X
  obtain ⟨v, st₀, tt, T', LL, h0, X', hL, e1, e2, ⟨⟨u, hu, hv, hI1, hI2, hI3⟩, hz, hk⟩, st⟩ := hrun T hT X
  cases hv
  rw [h0] at hz hk
  obtain ⟨hP2, hD2⟩ := va_join hP hD isC isR hC hR1 hn2 hdis (H1 := T'.heap) (fun q h1 h2 => by rw [e1]; exact hk q h1 h2) hFc (by rw [e1]; exact hI1) hI3
  obtain ⟨t2, a1, b1⟩ := k u hu hN T'.heap (locs ++ LL) ls hP2 hD2 ⟨Nat.le_trans hS.1 (by rw [e1]; exact hz), fun q h1 h2 => by rw [e1, hk q (Nat.lt_of_lt_of_le h1 hS.1) (fun z => h2 (hFc q z))]; exact hS.2.1 q h1 h2, fun q hq => by
      rcases List.mem_append.mp hq with h | h
      · exact hS.2.2 q h
      · exact hFc _ (hL q h)⟩ hl T' rfl X'
  exact ⟨t2, st t2 a1, b1⟩
end CH
