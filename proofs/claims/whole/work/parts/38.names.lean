/-! CONSTRUCTORS whose cells are said by a property -/
theorem ck_met {sd : Nat → Nat} {l : Launch} {D : va_G} {cA : Nat → ClassId} {ws0 : va_W} {sz t : Nat} {As : List Value} {post : Option Value → va_W → Prop} {mc ms : Nat} {rm : Room} {y : MethodName} {cc : ByteArray} {n o na oc : Nat} (hm : pm_m t = some (y, cc, n, none, o, na, oc)) (hname : y.name = "<init>") (hlen : (pm_ar As).length ≤ n)
    (body : ∀ (p : Program) (e : Env) (s : State) (m : MethodId) (below : List Frame) (meth : Method) (c : Code), s.heap.size = sz → meth.locks = false → meth.sig.returnType = none → cg_Cx sd True p rm s m As.toArray meth c D cA (va_A ws0 sz) o cc n → cg_Go p l e rm s m As.toArray below meth c (MQ below (cm_Post D cA ws0 sz post) As.toArray s mc ms (va_A ws0 sz)) D (va_A ws0 sz) n 0 0 ws0 0 (pm_en n As) []) :
    Met l y (pm_ws y cc n none) rm (cn_Pre sd D cA ws0 sz As) (cm_Post D cA ws0 sz post) mc ms (va_A ws0 sz) := by
  obtain ⟨g1, g2, g3, g4⟩ := pm_m_ok hm
  refine Met.ofW (cc := cc) (maxL := n) (ret := none) g3 rfl ?_
  intro p e s m args below meth c s₁ B hml hv
  obtain ⟨rfl, hsz, hP, hK, hD0, hX⟩ := hv
  have hts0 := atoms_spec (ws := pm_ws y cc n none) B.pre
  have hts : ∀ w ∈ pm_tb, w.before As.toArray s = true := fun w hw => hts0 w (List.mem_cons_of_mem _ hw)
  have hown : s.vm.findClass (pm_on o) = some m.cls := by rw [← g2]; exact findClass_of_methodNamed B.named
  have hin : meth.name = "<init>" := (name_of_methodNamed B.named B.method).1.trans hname
  subst hsz
  have hD := hD0.self (sz := s.heap.size)
  have hl := lv_entry As (n := n) (by have := pm_ar_len (fun q => q) As; rw [cg_map] at this; rw [this]; exact hlen)
  rw [lg_entry_eq]
  refine body p e s m below meth c rfl B.notSynchronized B.returns ⟨B.exec, B.bytes, hml, hown, hts, hK, fun q h => Or.inr h, fun _ => hin, hX⟩ (pm_en_len hlen) s.heap [] _ hP hD va_S.rf (pm_en_lh hlen ?_)
  rw [cg_map]
  exact hl
section CL
variable {p : Program} {l : Launch} {e : Env} {R : Room} {s : State} {m : MethodId} {args : Array Value} {below : List Frame} {meth : Method} {c : Code} {Z : State → Prop} {D : va_G} {cA : Nat → ClassId} {A : Nat → Prop}
variable {cc : ByteArray} {o n pc : Nat} {ws ws0 wr : va_W} {kc ks sz : Nat} {L S S' : List Value} {i : Instr} {N : Nat} {sd : Nat → Nat} {I : Prop} {post : Option Value → va_W → Prop}
theorem cg_rw (cx : cg_Cx sd I p R s m args meth c D cA (va_A ws0 sz) o cc N) (hlocks : meth.locks = false) (hr : meth.sig.returnType = none) (hpo : post none ws) (hd : decode cc pc = .ok (.return_, 1)) : cg_Go p l e R s m args below meth c (MQ below (cm_Post D cA ws0 sz post) args s kc ks (va_A ws0 sz)) D (va_A ws0 sz) N kc ks ws pc L [] := by
  obtain ⟨c1, c2, c3, c4, c5, c6, c7, c8⟩ := cx
  intro hN H locs ls hP hD hS hl
  exact W.vret c1 c2 hr (fun t ht hw => ⟨⟨_, ws, rfl, hpo, by rw [ht]; exact hP, va_K.moved hw.alike c6, hD⟩, hS.F ht⟩) hS.2.2 hd hlocks
/-- a field is read -/
theorem cg_gf (cx : cg_Cx sd I p R s m args meth c D cA A o cc N) (pc' q0 : Nat) {idx ci j a : Nat} {fs : List Value} {v : Value} (hf : pm_fd o idx = some (ci, j)) (he : ws[q0]? = some (a, .inr (ci, fs))) (hv : fs[j]? = some v) (hd : decode cc pc = .ok (.getfield idx, 3)) (hp : pc + 3 = pc') (k : cg_Go p l e R s m args below meth c Z D A N kc ks ws pc' L (v :: S)) : cg_Go p l e R s m args below meth c Z D A N kc ks ws pc L (.ref a :: S) := by
  subst hp
  obtain ⟨c1, c2, c3, c4, c5, c6, c7, c8⟩ := cx
  intro hN H locs ls hP hD hS hl
  obtain ⟨C, T, M, q1, q2, q3⟩ := pm_fd_ok hf
  obtain ⟨k1, k2, k3, k4⟩ := pm_cl_ok q1
  exact va_get c1 c2 c5 k1 c4 c6 hP q0 he q1 j q2 (c5 _ q3) (fun x q => q) hv hd (k hN H locs ls hP hD hS hl)
variable {mc ms idx t : Nat} {rm : Room} {y : MethodName} {bb : ByteArray} {n' o' na oc : Nat}
/-- a constructor of that kind is called -/
theorem cg_ck (cx : cg_Cx sd I p R s m args meth c D cA A o cc N) (pc' : Nat) (isC isR : List Nat) {b : Nat} (As : List Value) (hm : pm_m t = some (y, bb, n', none, o', na, oc)) (hname : y.name = "<init>") (hM : ∀ sz, Met l y (pm_ws y bb n' none) rm (cn_Pre sd D cA ws0 sz (.ref b :: As)) (cm_Post D cA ws0 sz post) mc ms (va_A ws0 sz)) (hC : isC.map (fun i => ws[i]?) = ws0.map some) (hR1 : isR.map (fun i => ws[i]?) = wr.map some) (hn1 : va_nd isC = true) (hn2 : va_nd isR = true) (hdis : ∀ i ∈ isR, i ∉ isC) (q1 : Cond.methodLink (pm_on o) idx y ∈ pm_tb) (q2 : Cond.instanceMethod y ∈ pm_tb) (q3 : Cond.initialized (pm_on o') ∈ pm_tb) (hrc : rm.cells = mc ∧ rm.slots = ms) (hd : decode cc pc = .ok (.invokespecial idx, 3)) (hs : S = As.reverse ++ .ref b :: S') (hn : As.length = na) (h8 : (S'.map fun v => v.category).sum ≤ 8) (hR : rm.frames + 1 ≤ R.frames ∧ 8 + (n' + 11) + rm.locals ≤ R.locals) (hf : kc + mc ≤ R.cells ∧ ks + ms ≤ R.slots) (hp : pc + 3 = pc')
    (k : ∀ v w1, post v w1 → cg_Go p l e R s m args below meth c Z D A N (kc + mc) (ks + ms) (wr ++ w1) pc' L (v.toList ++ S')) : cg_Go p l e R s m args below meth c Z D A N kc ks ws pc L S := by
  subst hp; subst hs
  obtain ⟨c1, c2, c3, c4, c5, c6, c7, c8⟩ := id cx
  obtain ⟨g1, g2, g3, g4⟩ := pm_m_ok hm
  intro hN H locs ls hP hD hS hl
  refine cg_back cx hN hP hD hS hl hC hR1 hn2 hdis (va_runI (g := F0 m pc ls (As.reverse ++ .ref b :: S')) (As := As) (rest := S') (b := b) ⟨c1, c2, c3, c4, c5⟩ (hM H.size) ⟨callB_of na c5 (pm_goodIn _ (fun w hw => by
      rcases List.mem_cons.mp hw with rfl | hw
      · exact g1
      · exact hw)) rfl hrc.1 hrc.2 (c5 _ (by rw [g2]; exact q3)) (c5 _ q1) g4 hR, hname, c5 _ q2⟩ ⟨cn_blind, cg_pre cx hP hD hS hC hn1⟩ rfl hn (by show ls.size = _; rw [hl.1, hN]) rfl (lv_room h8) hd hf) k
end CL
/-- the fixed names, after n constants -/
def nl_N : Nat → List (List Nat)
  | 0 => []
  | n + 1 => nl_F (nl_t n) (pm_sln n) (pm_sln n + 1) (nl_N n) 0 0
theorem nl_N_ok : ∀ n, n < 9 → (nl_N n).length ≤ 3800 ∧ (nl_N n).flatten.length ≤ 8600 := by decide +kernel
theorem nl_N_len : (nl_N 8).length = 75 ∧ (nl_N 8).flatten.length ≤ 512 := by decide +kernel
theorem d13_0 : decode prog_4_method_1_code 0 = .ok (.aload_n 0, 1) := by decide +kernel
theorem d13_1 : decode prog_4_method_1_code 1 = .ok (.invokespecial 7, 3) := by decide +kernel
theorem d13_4 : decode prog_4_method_1_code 4 = .ok (.aload_n 0, 1) := by decide +kernel
theorem d13_5 : decode prog_4_method_1_code 5 = .ok (.sipush 8704, 3) := by decide +kernel
theorem d13_8 : decode prog_4_method_1_code 8 = .ok (.newarray .char, 2) := by decide +kernel
theorem d13_10 : decode prog_4_method_1_code 10 = .ok (.putfield 13, 3) := by decide +kernel
theorem d13_13 : decode prog_4_method_1_code 13 = .ok (.aload_n 0, 1) := by decide +kernel
theorem d13_14 : decode prog_4_method_1_code 14 = .ok (.sipush 4172, 3) := by decide +kernel
theorem d13_17 : decode prog_4_method_1_code 17 = .ok (.newarray .int, 2) := by decide +kernel
theorem d13_19 : decode prog_4_method_1_code 19 = .ok (.putfield 17, 3) := by decide +kernel
theorem d13_22 : decode prog_4_method_1_code 22 = .ok (.aload_n 0, 1) := by decide +kernel
theorem d13_23 : decode prog_4_method_1_code 23 = .ok (.sipush 1024, 3) := by decide +kernel
theorem d13_26 : decode prog_4_method_1_code 26 = .ok (.newarray .int, 2) := by decide +kernel
theorem d13_28 : decode prog_4_method_1_code 28 = .ok (.putfield 21, 3) := by decide +kernel
theorem d13_31 : decode prog_4_method_1_code 31 = .ok (.aload_n 0, 1) := by decide +kernel
theorem d13_32 : decode prog_4_method_1_code 32 = .ok (.sipush 4171, 3) := by decide +kernel
theorem d13_35 : decode prog_4_method_1_code 35 = .ok (.newarray .int, 2) := by decide +kernel
theorem d13_37 : decode prog_4_method_1_code 37 = .ok (.putfield 24, 3) := by decide +kernel
theorem d13_40 : decode prog_4_method_1_code 40 = .ok (.aload_n 0, 1) := by decide +kernel
theorem d13_41 : decode prog_4_method_1_code 41 = .ok (.iconst 0, 1) := by decide +kernel
theorem d13_42 : decode prog_4_method_1_code 42 = .ok (.putfield 27, 3) := by decide +kernel
theorem d13_45 : decode prog_4_method_1_code 45 = .ok (.aload_n 0, 1) := by decide +kernel
theorem d13_46 : decode prog_4_method_1_code 46 = .ok (.getfield 21, 3) := by decide +kernel
theorem d13_49 : decode prog_4_method_1_code 49 = .ok (.iconst (-1), 1) := by decide +kernel
theorem d13_50 : decode prog_4_method_1_code 50 = .ok (.invokestatic 31, 3) := by decide +kernel
theorem d13_53 : decode prog_4_method_1_code 53 = .ok (.aload_n 0, 1) := by decide +kernel
theorem d13_54 : decode prog_4_method_1_code 54 = .ok (.ldc 37, 2) := by decide +kernel
theorem d13_56 : decode prog_4_method_1_code 56 = .ok (.invokevirtual 39, 3) := by decide +kernel
theorem d13_59 : decode prog_4_method_1_code 59 = .ok (.aload_n 0, 1) := by decide +kernel
theorem d13_60 : decode prog_4_method_1_code 60 = .ok (.ldc 43, 2) := by decide +kernel
theorem d13_62 : decode prog_4_method_1_code 62 = .ok (.invokevirtual 39, 3) := by decide +kernel
theorem d13_65 : decode prog_4_method_1_code 65 = .ok (.aload_n 0, 1) := by decide +kernel
theorem d13_66 : decode prog_4_method_1_code 66 = .ok (.ldc 45, 2) := by decide +kernel
theorem d13_68 : decode prog_4_method_1_code 68 = .ok (.invokevirtual 39, 3) := by decide +kernel
theorem d13_71 : decode prog_4_method_1_code 71 = .ok (.aload_n 0, 1) := by decide +kernel
theorem d13_72 : decode prog_4_method_1_code 72 = .ok (.ldc 47, 2) := by decide +kernel
theorem d13_74 : decode prog_4_method_1_code 74 = .ok (.invokevirtual 39, 3) := by decide +kernel
theorem d13_77 : decode prog_4_method_1_code 77 = .ok (.aload_n 0, 1) := by decide +kernel
theorem d13_78 : decode prog_4_method_1_code 78 = .ok (.ldc 49, 2) := by decide +kernel
theorem d13_80 : decode prog_4_method_1_code 80 = .ok (.invokevirtual 39, 3) := by decide +kernel
theorem d13_83 : decode prog_4_method_1_code 83 = .ok (.aload_n 0, 1) := by decide +kernel
theorem d13_84 : decode prog_4_method_1_code 84 = .ok (.ldc 51, 2) := by decide +kernel
theorem d13_86 : decode prog_4_method_1_code 86 = .ok (.invokevirtual 39, 3) := by decide +kernel
theorem d13_89 : decode prog_4_method_1_code 89 = .ok (.aload_n 0, 1) := by decide +kernel
theorem d13_90 : decode prog_4_method_1_code 90 = .ok (.ldc 53, 2) := by decide +kernel
theorem d13_92 : decode prog_4_method_1_code 92 = .ok (.invokevirtual 39, 3) := by decide +kernel
theorem d13_95 : decode prog_4_method_1_code 95 = .ok (.aload_n 0, 1) := by decide +kernel
theorem d13_96 : decode prog_4_method_1_code 96 = .ok (.ldc 55, 2) := by decide +kernel
theorem d13_98 : decode prog_4_method_1_code 98 = .ok (.invokevirtual 39, 3) := by decide +kernel
theorem d13_101 : decode prog_4_method_1_code 101 = .ok (.return_, 1) := by decide +kernel
theorem m13 : pm_m 13 = some (⟨"TypeRules$Names", "<init>", "()V"⟩, prog_4_method_1_code, 1, none, 1, 0, 2) := rfl
theorem cc13 (l : Launch) (sd : Nat → Nat) (D : va_G) (cA : Nat → ClassId) (h0 sz : Nat) : Met l ⟨"TypeRules$Names", "<init>", "()V"⟩ (pm_ws ⟨"TypeRules$Names", "<init>", "()V"⟩ prog_4_method_1_code 1 none) ({ frames := 6, cells := 12, slots := 19000, locals := 600 }) (cn_Pre sd D cA [(h0, .inr (1, [.null, .null, .null, .null, .int 0]))] sz [.ref h0]) (cm_Post D cA [(h0, .inr (1, [.null, .null, .null, .null, .int 0]))] sz (fun v w => v = none ∧ ∃ q0 q1 q2 q3 σ', w = pm_wd (ad_L [h0, q0, q1, q2, q3] sd) cA nl_Y5 σ' ∧ nt_I σ' 0 1 2 3 4 (nl_N 8))) 12 19000 (va_A [(h0, .inr (1, [.null, .null, .null, .null, .int 0]))] sz) := by
  refine ck_met m13 rfl (Nat.le_of_ble_eq_true rfl) (fun p e s m below meth c hsz hlocks hr cx => ?_)
  refine cg_l cx 1 d13_0 rfl rfl rfl rfl ?_
  refine cg_oi cx 4 (pm_at_tb (h := 12033) rfl rfl) (pm_at_tb (h := 12026) rfl rfl) (pm_at_tb (h := 12027) rfl rfl) d13_1 (Nat.le_of_ble_eq_true rfl) ⟨Nat.le_of_ble_eq_true rfl, Nat.le_of_ble_eq_true rfl⟩ rfl ?_
  refine cg_l cx 5 d13_4 rfl rfl rfl rfl ?_
  refine cg_k cx 8 8704 d13_5 (by decide) rfl ?_
  refine cg_na cx 10 1 8704 (by decide) (pm_at_tb (h := 12131) rfl rfl) (by decide) (by decide) (by decide) d13_8 ⟨Nat.le_of_ble_eq_true rfl, Nat.le_of_ble_eq_true rfl⟩ rfl (fun q0 => ?_)
  refine cg_pf cx 13 0 (ws' := [(h0, .inr (1, [.ref q0, .null, .null, .null, .int 0])), (q0, .inl (cA 1, cg_z 1 8704))]) (ci := 1) (j := 0) (fs := [.null, .null, .null, .null, .int 0]) rfl rfl rfl rfl rfl rfl (Nat.le_of_ble_eq_true rfl) rfl d13_10 rfl ?_
  refine cg_l cx 14 d13_13 rfl rfl rfl rfl ?_
  refine cg_k cx 17 4172 d13_14 (by decide) rfl ?_
  refine cg_na cx 19 0 4172 (by decide) (pm_at_tb (h := 12132) rfl rfl) (by decide) (by decide) (by decide) d13_17 ⟨Nat.le_of_ble_eq_true rfl, Nat.le_of_ble_eq_true rfl⟩ rfl (fun q1 => ?_)
  refine cg_pf cx 22 0 (ws' := [(h0, .inr (1, [.ref q0, .ref q1, .null, .null, .int 0])), (q0, .inl (cA 1, cg_z 1 8704)), (q1, .inl (cA 0, cg_z 0 4172))]) (ci := 1) (j := 1) (fs := [.ref q0, .null, .null, .null, .int 0]) rfl rfl rfl rfl rfl rfl (Nat.le_of_ble_eq_true rfl) rfl d13_19 rfl ?_
  refine cg_l cx 23 d13_22 rfl rfl rfl rfl ?_
  refine cg_k cx 26 1024 d13_23 (by decide) rfl ?_
  refine cg_na cx 28 0 1024 (by decide) (pm_at_tb (h := 12132) rfl rfl) (by decide) (by decide) (by decide) d13_26 ⟨Nat.le_of_ble_eq_true rfl, Nat.le_of_ble_eq_true rfl⟩ rfl (fun q2 => ?_)
  refine cg_pf cx 31 0 (ws' := [(h0, .inr (1, [.ref q0, .ref q1, .ref q2, .null, .int 0])), (q0, .inl (cA 1, cg_z 1 8704)), (q1, .inl (cA 0, cg_z 0 4172)), (q2, .inl (cA 0, cg_z 0 1024))]) (ci := 1) (j := 2) (fs := [.ref q0, .ref q1, .null, .null, .int 0]) rfl rfl rfl rfl rfl rfl (Nat.le_of_ble_eq_true rfl) rfl d13_28 rfl ?_
  refine cg_l cx 32 d13_31 rfl rfl rfl rfl ?_
  refine cg_k cx 35 4171 d13_32 (by decide) rfl ?_
  refine cg_na cx 37 0 4171 (by decide) (pm_at_tb (h := 12132) rfl rfl) (by decide) (by decide) (by decide) d13_35 ⟨Nat.le_of_ble_eq_true rfl, Nat.le_of_ble_eq_true rfl⟩ rfl (fun q3 => ?_)
  refine cg_pf cx 40 0 (ws' := [(h0, .inr (1, [.ref q0, .ref q1, .ref q2, .ref q3, .int 0])), (q0, .inl (cA 1, cg_z 1 8704)), (q1, .inl (cA 0, cg_z 0 4172)), (q2, .inl (cA 0, cg_z 0 1024)), (q3, .inl (cA 0, cg_z 0 4171))]) (ci := 1) (j := 3) (fs := [.ref q0, .ref q1, .ref q2, .null, .int 0]) rfl rfl rfl rfl rfl rfl (Nat.le_of_ble_eq_true rfl) rfl d13_37 rfl ?_
  refine cg_l cx 41 d13_40 rfl rfl rfl rfl ?_
  refine cg_k cx 42 0 d13_41 (by decide) rfl ?_
  refine cg_pf cx 45 0 (ws' := [(h0, .inr (1, [.ref q0, .ref q1, .ref q2, .ref q3, .int 0])), (q0, .inl (cA 1, cg_z 1 8704)), (q1, .inl (cA 0, cg_z 0 4172)), (q2, .inl (cA 0, cg_z 0 1024)), (q3, .inl (cA 0, cg_z 0 4171))]) (ci := 1) (j := 4) (fs := [.ref q0, .ref q1, .ref q2, .ref q3, .int 0]) rfl rfl rfl rfl rfl rfl (Nat.le_of_ble_eq_true rfl) rfl d13_42 rfl ?_
  refine cg_l cx 46 d13_45 rfl rfl rfl rfl ?_
  refine cg_gf cx 49 0 (ci := 1) (j := 2) (fs := [.ref q0, .ref q1, .ref q2, .ref q3, .int 0]) rfl rfl rfl d13_46 rfl ?_
  refine cg_k cx 50 (-1) d13_49 (by decide) rfl ?_
  have hF := fun sz => cm_pure (Y := nl_Y5) rfl l (D := D) (cA := cA) (sd := sd) (ad := ad_L [h0, q0, q1, q2, q3] sd) ad_L_s (σ := (fun _ _ => 0, fun _ _ => 0, fun _ _ => 0)) m322 (sp322 (d := 0) (k := 3) (M := 1024) (v := -1) (Q := fun r σ' => r = none ∧ σ' = pm_pr (fun _ _ => 0, fun _ _ => 0, fun _ _ => 0) 3 (fun i => if i < 1024 then -1 else 0)) rfl (by decide) ⟨rfl, rfl⟩) sz
  refine cg_cs cx 53 [0, 1, 2, 3, 4] [] (wr := []) (S' := []) [.ref q2, .int (-1)] m322 hF rfl rfl (by decide) (by decide) (by decide) (pm_at_tb (h := 12034) rfl rfl) (pm_at_tb (h := 12035) rfl rfl) (pm_at_tb (h := 12003) rfl rfl) ⟨rfl, rfl⟩ d13_50 rfl rfl (Nat.le_of_ble_eq_true rfl) ⟨Nat.le_of_ble_eq_true rfl, Nat.le_of_ble_eq_true rfl⟩ ⟨Nat.le_of_ble_eq_true rfl, Nat.le_of_ble_eq_true rfl⟩ rfl (fun v w1 hp => ?_)
  obtain ⟨r, σ0, rfl, ⟨rfl, e0⟩, rfl⟩ := hp
  have hI0 : nt_I σ0 0 1 2 3 4 (nl_N 0) := by
    rw [e0]
    refine nt_I0 rfl rfl (fun b hb => ?_)
    rw [pm_r22, if_pos hb]
  clear e0 hF
  refine cg_l cx 54 d13_53 rfl rfl rfl rfl ?_
  refine cg_ks cx 56 0 d13_54 rfl rfl ?_
  refine cg_cv cx 59 [0, 1, 2, 3, 4] [] (wr := []) (S' := []) [.ref (sd (1100 + 0))] m14 (cm14 l sd D cA (j := 0) (by decide) h0 q0 q1 q2 q3 hI0 (nl_N_ok 0 (by decide)).1 (nl_N_ok 0 (by decide)).2) (fun H locs hP hS => va_recv cx.2.2.2.2.2.1 hP (ci := 1) (q0 := 0) rfl rfl) rfl rfl (by decide) (by decide) (by decide) (pm_at_tb (h := 12038) rfl rfl) (pm_at_tb (h := 12040) rfl rfl) (pm_at_tb (h := 0) rfl rfl) (pm_at_tb (h := 12002) rfl rfl) ⟨rfl, rfl⟩ d13_56 rfl rfl (Nat.le_of_ble_eq_true rfl) ⟨Nat.le_of_ble_eq_true rfl, Nat.le_of_ble_eq_true rfl⟩ ⟨Nat.le_of_ble_eq_true rfl, Nat.le_of_ble_eq_true rfl⟩ rfl (fun v w1 hp => ?_)
  obtain ⟨rfl, σ1, rfl, hI1⟩ := hp
  refine cg_l cx 60 d13_59 rfl rfl rfl rfl ?_
  refine cg_ks cx 62 1 d13_60 rfl rfl ?_
  refine cg_cv cx 65 [0, 1, 2, 3, 4] [] (wr := []) (S' := []) [.ref (sd (1100 + 1))] m14 (cm14 l sd D cA (j := 1) (by decide) h0 q0 q1 q2 q3 hI1 (nl_N_ok 1 (by decide)).1 (nl_N_ok 1 (by decide)).2) (fun H locs hP hS => va_recv cx.2.2.2.2.2.1 hP (ci := 1) (q0 := 0) rfl rfl) rfl rfl (by decide) (by decide) (by decide) (pm_at_tb (h := 12038) rfl rfl) (pm_at_tb (h := 12040) rfl rfl) (pm_at_tb (h := 0) rfl rfl) (pm_at_tb (h := 12002) rfl rfl) ⟨rfl, rfl⟩ d13_62 rfl rfl (Nat.le_of_ble_eq_true rfl) ⟨Nat.le_of_ble_eq_true rfl, Nat.le_of_ble_eq_true rfl⟩ ⟨Nat.le_of_ble_eq_true rfl, Nat.le_of_ble_eq_true rfl⟩ rfl (fun v w1 hp => ?_)
  obtain ⟨rfl, σ2, rfl, hI2⟩ := hp
  refine cg_l cx 66 d13_65 rfl rfl rfl rfl ?_
  refine cg_ks cx 68 2 d13_66 rfl rfl ?_
  refine cg_cv cx 71 [0, 1, 2, 3, 4] [] (wr := []) (S' := []) [.ref (sd (1100 + 2))] m14 (cm14 l sd D cA (j := 2) (by decide) h0 q0 q1 q2 q3 hI2 (nl_N_ok 2 (by decide)).1 (nl_N_ok 2 (by decide)).2) (fun H locs hP hS => va_recv cx.2.2.2.2.2.1 hP (ci := 1) (q0 := 0) rfl rfl) rfl rfl (by decide) (by decide) (by decide) (pm_at_tb (h := 12038) rfl rfl) (pm_at_tb (h := 12040) rfl rfl) (pm_at_tb (h := 0) rfl rfl) (pm_at_tb (h := 12002) rfl rfl) ⟨rfl, rfl⟩ d13_68 rfl rfl (Nat.le_of_ble_eq_true rfl) ⟨Nat.le_of_ble_eq_true rfl, Nat.le_of_ble_eq_true rfl⟩ ⟨Nat.le_of_ble_eq_true rfl, Nat.le_of_ble_eq_true rfl⟩ rfl (fun v w1 hp => ?_)
  obtain ⟨rfl, σ3, rfl, hI3⟩ := hp
  refine cg_l cx 72 d13_71 rfl rfl rfl rfl ?_
  refine cg_ks cx 74 3 d13_72 rfl rfl ?_
  refine cg_cv cx 77 [0, 1, 2, 3, 4] [] (wr := []) (S' := []) [.ref (sd (1100 + 3))] m14 (cm14 l sd D cA (j := 3) (by decide) h0 q0 q1 q2 q3 hI3 (nl_N_ok 3 (by decide)).1 (nl_N_ok 3 (by decide)).2) (fun H locs hP hS => va_recv cx.2.2.2.2.2.1 hP (ci := 1) (q0 := 0) rfl rfl) rfl rfl (by decide) (by decide) (by decide) (pm_at_tb (h := 12038) rfl rfl) (pm_at_tb (h := 12040) rfl rfl) (pm_at_tb (h := 0) rfl rfl) (pm_at_tb (h := 12002) rfl rfl) ⟨rfl, rfl⟩ d13_74 rfl rfl (Nat.le_of_ble_eq_true rfl) ⟨Nat.le_of_ble_eq_true rfl, Nat.le_of_ble_eq_true rfl⟩ ⟨Nat.le_of_ble_eq_true rfl, Nat.le_of_ble_eq_true rfl⟩ rfl (fun v w1 hp => ?_)
  obtain ⟨rfl, σ4, rfl, hI4⟩ := hp
  refine cg_l cx 78 d13_77 rfl rfl rfl rfl ?_
  refine cg_ks cx 80 4 d13_78 rfl rfl ?_
  refine cg_cv cx 83 [0, 1, 2, 3, 4] [] (wr := []) (S' := []) [.ref (sd (1100 + 4))] m14 (cm14 l sd D cA (j := 4) (by decide) h0 q0 q1 q2 q3 hI4 (nl_N_ok 4 (by decide)).1 (nl_N_ok 4 (by decide)).2) (fun H locs hP hS => va_recv cx.2.2.2.2.2.1 hP (ci := 1) (q0 := 0) rfl rfl) rfl rfl (by decide) (by decide) (by decide) (pm_at_tb (h := 12038) rfl rfl) (pm_at_tb (h := 12040) rfl rfl) (pm_at_tb (h := 0) rfl rfl) (pm_at_tb (h := 12002) rfl rfl) ⟨rfl, rfl⟩ d13_80 rfl rfl (Nat.le_of_ble_eq_true rfl) ⟨Nat.le_of_ble_eq_true rfl, Nat.le_of_ble_eq_true rfl⟩ ⟨Nat.le_of_ble_eq_true rfl, Nat.le_of_ble_eq_true rfl⟩ rfl (fun v w1 hp => ?_)
  obtain ⟨rfl, σ5, rfl, hI5⟩ := hp
  refine cg_l cx 84 d13_83 rfl rfl rfl rfl ?_
  refine cg_ks cx 86 5 d13_84 rfl rfl ?_
  refine cg_cv cx 89 [0, 1, 2, 3, 4] [] (wr := []) (S' := []) [.ref (sd (1100 + 5))] m14 (cm14 l sd D cA (j := 5) (by decide) h0 q0 q1 q2 q3 hI5 (nl_N_ok 5 (by decide)).1 (nl_N_ok 5 (by decide)).2) (fun H locs hP hS => va_recv cx.2.2.2.2.2.1 hP (ci := 1) (q0 := 0) rfl rfl) rfl rfl (by decide) (by decide) (by decide) (pm_at_tb (h := 12038) rfl rfl) (pm_at_tb (h := 12040) rfl rfl) (pm_at_tb (h := 0) rfl rfl) (pm_at_tb (h := 12002) rfl rfl) ⟨rfl, rfl⟩ d13_86 rfl rfl (Nat.le_of_ble_eq_true rfl) ⟨Nat.le_of_ble_eq_true rfl, Nat.le_of_ble_eq_true rfl⟩ ⟨Nat.le_of_ble_eq_true rfl, Nat.le_of_ble_eq_true rfl⟩ rfl (fun v w1 hp => ?_)
  obtain ⟨rfl, σ6, rfl, hI6⟩ := hp
  refine cg_l cx 90 d13_89 rfl rfl rfl rfl ?_
  refine cg_ks cx 92 6 d13_90 rfl rfl ?_
  refine cg_cv cx 95 [0, 1, 2, 3, 4] [] (wr := []) (S' := []) [.ref (sd (1100 + 6))] m14 (cm14 l sd D cA (j := 6) (by decide) h0 q0 q1 q2 q3 hI6 (nl_N_ok 6 (by decide)).1 (nl_N_ok 6 (by decide)).2) (fun H locs hP hS => va_recv cx.2.2.2.2.2.1 hP (ci := 1) (q0 := 0) rfl rfl) rfl rfl (by decide) (by decide) (by decide) (pm_at_tb (h := 12038) rfl rfl) (pm_at_tb (h := 12040) rfl rfl) (pm_at_tb (h := 0) rfl rfl) (pm_at_tb (h := 12002) rfl rfl) ⟨rfl, rfl⟩ d13_92 rfl rfl (Nat.le_of_ble_eq_true rfl) ⟨Nat.le_of_ble_eq_true rfl, Nat.le_of_ble_eq_true rfl⟩ ⟨Nat.le_of_ble_eq_true rfl, Nat.le_of_ble_eq_true rfl⟩ rfl (fun v w1 hp => ?_)
  obtain ⟨rfl, σ7, rfl, hI7⟩ := hp
  refine cg_l cx 96 d13_95 rfl rfl rfl rfl ?_
  refine cg_ks cx 98 7 d13_96 rfl rfl ?_
  refine cg_cv cx 101 [0, 1, 2, 3, 4] [] (wr := []) (S' := []) [.ref (sd (1100 + 7))] m14 (cm14 l sd D cA (j := 7) (by decide) h0 q0 q1 q2 q3 hI7 (nl_N_ok 7 (by decide)).1 (nl_N_ok 7 (by decide)).2) (fun H locs hP hS => va_recv cx.2.2.2.2.2.1 hP (ci := 1) (q0 := 0) rfl rfl) rfl rfl (by decide) (by decide) (by decide) (pm_at_tb (h := 12038) rfl rfl) (pm_at_tb (h := 12040) rfl rfl) (pm_at_tb (h := 0) rfl rfl) (pm_at_tb (h := 12002) rfl rfl) ⟨rfl, rfl⟩ d13_98 rfl rfl (Nat.le_of_ble_eq_true rfl) ⟨Nat.le_of_ble_eq_true rfl, Nat.le_of_ble_eq_true rfl⟩ ⟨Nat.le_of_ble_eq_true rfl, Nat.le_of_ble_eq_true rfl⟩ rfl (fun v w1 hp => ?_)
  obtain ⟨rfl, σ8, rfl, hI8⟩ := hp
  refine cg_wide (kc' := 12) (ks' := 19000) (Nat.le_of_ble_eq_true rfl) (Nat.le_of_ble_eq_true rfl) ?_
  exact cg_rw cx hlocks hr ⟨rfl, q0, q1, q2, q3, σ8, rfl, hI8⟩ d13_101
