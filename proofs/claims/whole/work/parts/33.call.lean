/-! CALLS out of a growing world, by any contract: post says the answer and the cells behind it -/
def cm_Post (D : va_G) (cA : Nat → ClassId) (ws0 : va_W) (sz : Nat) (post : Option Value → va_W → Prop) : Array Value → State → Outcome → State → Prop := fun _ st oc t => (∃ v w1, oc = .returned v ∧ post v w1 ∧ va_P D pm_cl w1 t.heap ∧ va_K D pm_cl (pm_tys cA) t ∧ va_D (va_A ws0 sz) w1) ∧ va_F (va_A ws0 sz) st t
theorem cm_conv {l : Launch} {y : MethodName} {ws : List Cond} {rm : Room} {Pc Pc' : Array Value → State → Prop} {Qc Qc' : Array Value → State → Outcome → State → Prop} {mc ms : Nat} {free free' : Addr → Prop} (hM : Met l y ws rm Pc Qc mc ms free) (hP : ∀ a s, Pc' a s → Pc a s) (hQ : ∀ a st o t, Qc a st o t → Qc' a st o t) (hf : ∀ q, free q → free' q) : Met l y ws rm Pc' Qc' mc ms free' := by
  intro p e ha hc hk s m args below hF happ hPre hK
  obtain ⟨t, o, h1, h2, h3, hq, L, hL1, hL2⟩ := hM p e ha hc hk s m args below hF happ (hP _ _ hPre) hK
  exact ⟨t, o, h1, h2, h3, hQ _ _ _ _ hq, L, hL1, fun q hq => hf _ (hL2 q hq)⟩
/-- a method of the pure machine, seen from a growing world -/
theorem cm_pure {Y : pm_Y} (hY : Y.all pm_ckY = true) (l : Launch) {D : va_G} {ad sd : Nat → Nat} {cA : Nat → ClassId} (had : ∀ k, 1000 ≤ k → ad k = sd k) {d t : Nat} {As : List Value} {σ : pm_S} {Q : Option Value → pm_S → Prop} {y : MethodName} {cc : ByteArray} {n : Nat} {rt : Option FieldType} {o na oc : Nat} (hm : pm_m t = some (y, cc, n, rt, o, na, oc)) (h : pm_call Y d t As σ Q) (sz : Nat) : Met l y (pm_ws y cc n rt) (pm_rm d) (cn_Pre sd D cA (pm_wd ad cA Y σ) sz (As.map (pm_tau ad))) (cm_Post D cA (pm_wd ad cA Y σ) sz (fun v w => ∃ r σ', v = r.map (pm_tau ad) ∧ Q r σ' ∧ w = pm_wd ad cA Y σ')) 0 0 (va_A (pm_wd ad cA Y σ) sz) := by
  refine cm_conv (pm_sim hY l D ad cA d t As σ Q sz y cc n rt o na oc hm h) (fun a s hp => ?_) (fun a st oc t hq => ?_) (fun q h => h)
  · obtain ⟨h1, h2, h3, h4, h5, h6⟩ := hp
    refine ⟨h1, h2, ⟨h3, h4, h5⟩, ?_⟩
    have e0 : ∀ j, ad (1000 + j) = sd (1000 + j) := fun j => had _ (by omega)
    have e1 : (fun j => ad (1100 + j)) = (fun j => sd (1100 + j)) := funext fun j => had _ (by omega)
    have e2 : (fun j => ad (1200 + j)) = (fun j => sd (1200 + j)) := funext fun j => had _ (by omega)
    refine ⟨fun j f C n d q1 q2 => ?_, ?_, h6.2.2.1, fun o idx j q => ?_⟩
    · rw [e0 j]; exact h6.1 j f C n d q1 q2
    · rw [e1, e2]; exact h6.2.1
    · rw [had (1100 + j) (by omega)]; exact h6.2.2.2 o idx j q
  · obtain ⟨⟨r, σ', h1, h2, h3, h4, h5⟩, h6⟩ := hq
    refine ⟨⟨_, _, h1, ⟨r, σ', rfl, h2, rfl⟩, h3, h4, ?_⟩, h6⟩
    have := h5.self (sz := sz)
    exact this.weaken (fun k q hk hq => pm_wd_A.mp hq)
section CJ
variable {p : Program} {l : Launch} {e : Env} {R : Room} {s : State} {m : MethodId} {args : Array Value} {below : List Frame} {meth : Method} {c : Code} {Z : State → Prop} {D : va_G} {cA : Nat → ClassId} {A : Nat → Prop}
variable {cc : ByteArray} {o n pc : Nat} {ws ws0 wr : va_W} {kc ks : Nat} {L S S' : List Value} {N : Nat} {sd : Nat → Nat} {I : Prop} {post : Option Value → va_W → Prop} {mc ms idx t : Nat} {rm : Room} {y : MethodName} {bb : ByteArray} {n' o' na oc : Nat} {rt : Option FieldType} {isC isR : List Nat}
/-- what comes behind such a call -/
theorem cg_back {H : Heap} {locs : List Loc} {ls : Array Slot} {a : Array Value} {v0 : List Value} (cx : cg_Cx sd I p R s m args meth c D cA A o cc N) (hN : L.length = N) (hP : va_P D pm_cl ws H) (hD : va_D A ws) (hS : va_S A s.heap H locs) (hl : pm_lh (fun q => q) ls L) (hC : isC.map (fun i => ws[i]?) = ws0.map some) (hR1 : isR.map (fun i => ws[i]?) = wr.map some) (hn2 : va_nd isR = true) (hdis : ∀ i ∈ isR, i ∉ isC)
    (hr : va_Run p l e R s m args below meth c H locs kc ks mc ms (F0 m pc ls v0) S' (cm_Post D cA ws0 H.size post a) (va_A ws0 H.size))
    (k : ∀ v w1, post v w1 → cg_Go p l e R s m args below meth c Z D A N (kc + mc) (ks + ms) (wr ++ w1) (pc + 3) L (v.toList ++ S')) : W p l e R s m args below meth c H locs kc ks Z (F0 m pc ls v0) := by
  obtain ⟨c1, c2, c3, c4, c5, c6, c7, c8⟩ := cx
  have hFc := va_free hD hS c7 isC hC
  intro T hT X
  obtain ⟨v, st₀, tt, T', LL, h0, X', hL, e1, e2, ⟨⟨v2, w1, hv, hpo, hI1, hI2, hI3⟩, hz, hk⟩, st⟩ := hr T hT X
  cases hv
  rw [h0] at hz hk
  obtain ⟨hP2, hD2⟩ := va_join hP hD isC isR hC hR1 hn2 hdis (H1 := T'.heap) (fun q h1 h2 => by rw [e1]; exact hk q h1 h2) hFc (by rw [e1]; exact hI1) hI3
  obtain ⟨t2, a1, b1⟩ := k v w1 hpo hN T'.heap (locs ++ LL) ls hP2 hD2 ⟨Nat.le_trans hS.1 (by rw [e1]; exact hz), fun q h1 h2 => by rw [e1, hk q (Nat.lt_of_lt_of_le h1 hS.1) (fun z => h2 (hFc q z))]; exact hS.2.1 q h1 h2, fun q hq => by
      rcases List.mem_append.mp hq with h | h
      · exact hS.2.2 q h
      · exact hFc _ (hL q h)⟩ hl T' rfl X'
  exact ⟨t2, st t2 a1, b1⟩
theorem cg_sub {H : Heap} (hP : va_P D pm_cl ws H) (hC : isC.map (fun i => ws[i]?) = ws0.map some) : va_P D pm_cl ws0 H := by
  intro k q hk
  have h1 : (isC.map (fun i => ws[i]?))[k]? = some (some q) := by rw [hC, List.getElem?_map, hk]; rfl
  rw [List.getElem?_map] at h1
  cases hi : isC[k]? with
  | none => rw [hi] at h1; cases h1
  | some i => rw [hi] at h1; exact hP i q (Option.some.inj h1)
theorem cg_pre {H : Heap} {locs : List Loc} {As : List Value} (cx : cg_Cx sd I p R s m args meth c D cA A o cc N) (hP : va_P D pm_cl ws H) (hD : va_D A ws) (hS : va_S A s.heap H locs) (hC : isC.map (fun i => ws[i]?) = ws0.map some) (hn1 : va_nd isC = true) : ∀ U : State, U.heap = H → s.WarmedH U.vm → cn_Pre sd D cA ws0 H.size As As.toArray U := by
  obtain ⟨c1, c2, c3, c4, c5, c6, c7, c8⟩ := cx
  have hFc := va_free hD hS c7 isC hC
  intro U hU hW
  exact ⟨rfl, by rw [hU], by rw [hU]; exact cg_sub hP hC, va_K.moved hW.alike c6, (hD.sub isC hn1 hC).weaken (fun _ _ _ _ => trivial), by rw [hU]; exact ((c8.2.kept hS.2.1).narrow hFc).warm hW⟩
/-- a static method -/
theorem cg_cs (cx : cg_Cx sd I p R s m args meth c D cA A o cc N) (pc' : Nat) (isC isR : List Nat) (As : List Value) (hm : pm_m t = some (y, bb, n', rt, o', na, oc)) (hM : ∀ sz, Met l y (pm_ws y bb n' rt) rm (cn_Pre sd D cA ws0 sz As) (cm_Post D cA ws0 sz post) mc ms (va_A ws0 sz)) (hC : isC.map (fun i => ws[i]?) = ws0.map some) (hR1 : isR.map (fun i => ws[i]?) = wr.map some) (hn1 : va_nd isC = true) (hn2 : va_nd isR = true) (hdis : ∀ i ∈ isR, i ∉ isC) (q1 : Cond.methodLink (pm_on o) idx y ∈ pm_tb) (q2 : Cond.static y ∈ pm_tb) (q3 : Cond.initialized (pm_on o') ∈ pm_tb) (hrc : rm.cells = mc ∧ rm.slots = ms) (hd : decode cc pc = .ok (.invokestatic idx, 3)) (hs : S = As.reverse ++ S') (hn : As.length = na) (h8 : (S'.map fun v => v.category).sum ≤ 8) (hR : rm.frames + 1 ≤ R.frames ∧ 8 + (n' + 11) + rm.locals ≤ R.locals) (hf : kc + mc ≤ R.cells ∧ ks + ms ≤ R.slots) (hp : pc + 3 = pc')
    (k : ∀ v w1, post v w1 → cg_Go p l e R s m args below meth c Z D A N (kc + mc) (ks + ms) (wr ++ w1) pc' L (v.toList ++ S')) : cg_Go p l e R s m args below meth c Z D A N kc ks ws pc L S := by
  subst hp; subst hs
  obtain ⟨c1, c2, c3, c4, c5, c6, c7, c8⟩ := id cx
  obtain ⟨g1, g2, g3, g4⟩ := pm_m_ok hm
  intro hN H locs ls hP hD hS hl
  refine cg_back cx hN hP hD hS hl hC hR1 hn2 hdis (va_runS (g := F0 m pc ls (As.reverse ++ S')) (As := As) (rest := S') ⟨c1, c2, c3, c4, c5⟩ (hM H.size) (va_cwS na c5 (pm_goodIn _ (fun w hw => ?_)) rfl hrc.1 hrc.2 g4 hR) ⟨cn_blind, cg_pre cx hP hD hS hC hn1⟩ rfl hn (by show ls.size = _; rw [hl.1, hN]) rfl (lv_room h8) hd hf) k
  simp only [va_wsS, List.mem_append, List.mem_cons, List.not_mem_nil, or_false] at hw
  rcases hw with (rfl | rfl | rfl) | hw
  · exact q1
  · exact q2
  · rw [g2]; exact q3
  · rcases List.mem_cons.mp hw with rfl | hw
    · exact g1
    · exact hw
/-- an instance method; the receiver is an object of class o' -/
theorem cg_cv (cx : cg_Cx sd I p R s m args meth c D cA A o cc N) (pc' : Nat) (isC isR : List Nat) {b : Nat} (As : List Value) (hm : pm_m t = some (y, bb, n', rt, o', na, oc)) (hM : ∀ sz, Met l y (pm_ws y bb n' rt) rm (cn_Pre sd D cA ws0 sz (.ref b :: As)) (cm_Post D cA ws0 sz post) mc ms (va_A ws0 sz)) (hrecv : ∀ (H : Heap) (locs : List Loc), va_P D pm_cl ws H → va_S A s.heap H locs → ∃ cell : Cell, H[b]? = some cell ∧ cell.vm.isStatics = false ∧ s.vm.findClass (pm_on o') = some cell.cls) (hC : isC.map (fun i => ws[i]?) = ws0.map some) (hR1 : isR.map (fun i => ws[i]?) = wr.map some) (hn1 : va_nd isC = true) (hn2 : va_nd isR = true) (hdis : ∀ i ∈ isR, i ∉ isC) (q1 : Cond.methodLink (pm_on o) idx y ∈ pm_tb) (q2 : Cond.instanceMethod y ∈ pm_tb) (q4 : Cond.selects (pm_on o') y y ∈ pm_tb) (q3 : Cond.initialized (pm_on o') ∈ pm_tb) (hrc : rm.cells = mc ∧ rm.slots = ms) (hd : decode cc pc = .ok (.invokevirtual idx, 3)) (hs : S = As.reverse ++ .ref b :: S') (hn : As.length = na) (h8 : (S'.map fun v => v.category).sum ≤ 8) (hR : rm.frames + 1 ≤ R.frames ∧ 8 + (n' + 11) + rm.locals ≤ R.locals) (hf : kc + mc ≤ R.cells ∧ ks + ms ≤ R.slots) (hp : pc + 3 = pc')
    (k : ∀ v w1, post v w1 → cg_Go p l e R s m args below meth c Z D A N (kc + mc) (ks + ms) (wr ++ w1) pc' L (v.toList ++ S')) : cg_Go p l e R s m args below meth c Z D A N kc ks ws pc L S := by
  subst hp; subst hs
  obtain ⟨c1, c2, c3, c4, c5, c6, c7, c8⟩ := id cx
  obtain ⟨g1, g2, g3, g4⟩ := pm_m_ok hm
  intro hN H locs ls hP hD hS hl
  refine cg_back cx hN hP hD hS hl hC hR1 hn2 hdis (va_runV (C := pm_on o') (b := b) (g := F0 m pc ls (As.reverse ++ .ref b :: S')) (As := As) (rest := S') ⟨c1, c2, c3, c4, c5⟩ (hM H.size) (cwV na c5 (pm_goodIn _ (fun w hw => ?_)) rfl hrc.1 hrc.2 ⟨g2, g4⟩ hR) ⟨cn_blind, hrecv H locs hP hS, cg_pre cx hP hD hS hC hn1⟩ rfl hn (by show ls.size = _; rw [hl.1, hN]) rfl (lv_room h8) hd hf) k
  simp only [wsV, List.mem_append, List.mem_cons, List.not_mem_nil, or_false] at hw
  rcases hw with (rfl | rfl | rfl | rfl) | hw
  · exact q1
  · exact q2
  · exact q4
  · exact q3
  · rcases List.mem_cons.mp hw with rfl | hw
    · exact g1
    · exact hw
end CJ
