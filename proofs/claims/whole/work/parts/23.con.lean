/-! CONSTRUCTORS that ask the blocks for their variables -/
theorem d110_0 : decode prog_2_method_2_code 0 = .ok (.aload_n 0, 1) := by decide +kernel
theorem d110_1 : decode prog_2_method_2_code 1 = .ok (.getfield 14, 3) := by decide +kernel
theorem d110_4 : decode prog_2_method_2_code 4 = .ok (.areturn, 1) := by decide +kernel
theorem m110 : pm_m 110 = some (⟨"TypeRules$Blocks", "variables", "()LTypeRules$Variables;"⟩, prog_2_method_2_code, 1, (some (FieldType.object "TypeRules$Variables")), 5, 0, 6) := rfl
theorem cv_met (l : Launch) (sd : Nat → Nat) (D : va_G) (cA : Nat → ClassId) (b v sz : Nat) (fs : List Value) : Met l ⟨"TypeRules$Blocks", "variables", "()LTypeRules$Variables;"⟩ (pm_ws ⟨"TypeRules$Blocks", "variables", "()LTypeRules$Variables;"⟩ prog_2_method_2_code 1 (some (FieldType.object "TypeRules$Variables"))) ({ frames := 1, cells := 0, slots := 0, locals := 60 }) (cn_Pre sd D cA [(b, .inr (5, .ref v :: fs))] sz [.ref b]) (fun _ st oc t => oc = .returned (some (.ref v)) ∧ t.heap = st.heap) 0 0 (fun _ => False) := by
  obtain ⟨g1, g2, g3, g4⟩ := pm_m_ok m110
  refine Met.ofW (cc := prog_2_method_2_code) (maxL := 1) (ret := some (FieldType.object "TypeRules$Variables")) g3 rfl ?_
  intro p e s m args below meth c s₁ B hml hv
  obtain ⟨rfl, hsz, hP, hK, hD0, hX0⟩ := hv
  have hts0 := atoms_spec (ws := pm_ws ⟨"TypeRules$Blocks", "variables", "()LTypeRules$Variables;"⟩ prog_2_method_2_code 1 (some (FieldType.object "TypeRules$Variables"))) B.pre
  have hts : ∀ w ∈ pm_tb, w.before [Value.ref b].toArray s = true := fun w hw => hts0 w (List.mem_cons_of_mem _ hw)
  have hown : s.vm.findClass (pm_on 5) = some m.cls := findClass_of_methodNamed B.named
  have hl := lv_entry [Value.ref b] (n := 1) (Nat.le_of_ble_eq_true rfl)
  rw [lg_entry_eq]
  obtain ⟨C, T, M, q1, q2, q3⟩ := pm_fd_ok (o := 5) (idx := 14) (ci := 5) (j := 0) rfl
  obtain ⟨c1, c2, c3, c4⟩ := pm_cl_ok q1
  refine lv_aload_n B.exec B.bytes d110_0 rfl (lv_at hl 0 rfl) ?_
  refine va_get B.exec B.bytes hts c1 hown hK hP 0 rfl q1 0 q2 (hts _ q3) (fun x q => q) rfl d110_1 ?_
  exact W.aret B.exec B.bytes B.returns (Or.inl ⟨_, rfl⟩) (Or.inr ⟨_, rfl⟩) (fun t ht hw => ⟨rfl, ht⟩) (fun q hq => by cases hq) d110_4 B.notSynchronized
theorem cg_vr {p : Program} {l : Launch} {e : Env} {R : Room} {s : State} {m : MethodId} {args : Array Value} {below : List Frame} {meth : Method} {c : Code} {Z : State → Prop} {D : va_G} {cA : Nat → ClassId} {A : Nat → Prop} {cc : ByteArray} {o pc : Nat} {ws : va_W} {kc ks : Nat} {L S : List Value} {N : Nat} {sd : Nat → Nat} {I : Prop} (cx : cg_Cx sd I p R s m args meth c D cA A o cc N) (pc' q0 : Nat) {idx b v : Nat} {fs : List Value} (he : ws[q0]? = some (b, .inr (5, .ref v :: fs))) (q1 : Cond.methodLink (pm_on o) idx ⟨"TypeRules$Blocks", "variables", "()LTypeRules$Variables;"⟩ ∈ pm_tb) (hd : decode cc pc = .ok (.invokevirtual idx, 3)) (h8 : (S.map fun v => v.category).sum ≤ 8) (hR : 2 ≤ R.frames ∧ 120 ≤ R.locals) (hf : kc ≤ R.cells ∧ ks ≤ R.slots) (hp : pc + 3 = pc') (k : cg_Go p l e R s m args below meth c Z D A N kc ks ws pc' L (.ref v :: S)) : cg_Go p l e R s m args below meth c Z D A N kc ks ws pc L (.ref b :: S) := by
  subst hp
  obtain ⟨c1, c2, c3, c4, c5, c6, c7, c8⟩ := cx
  obtain ⟨g1, g2, g3, g4⟩ := pm_m_ok m110
  intro hN H locs ls hP hD hS hl
  have hP1 : va_P D pm_cl [(b, .inr (5, .ref v :: fs))] H := by
    intro k q hk
    match k, hk with
    | 0, hk => cases hk; exact hP q0 _ he
    | k + 1, hk => simp at hk
  have hD1 : va_D (fun _ => True) [(b, (.inr (5, .ref v :: fs) : va_E))] := by
    refine ⟨fun i j x y hi hj _ => ?_, fun _ _ _ => trivial⟩
    have h1 := (List.getElem?_eq_some_iff.mp hi).1
    have h2 := (List.getElem?_eq_some_iff.mp hj).1
    simp at h1 h2
    omega
  have hF1 : ∀ q, va_A [(b, (.inr (5, .ref v :: fs) : va_E))] H.size q → A q := by
    intro q h
    rcases h with ⟨k, e, h⟩ | h
    · match k, h with
      | 0, h => cases h; exact hD.2 q0 _ he
      | k + 1, h => simp at h
    · exact c7 q (Nat.le_trans hS.1 h)
  have hrun := va_runV (p := p) (l := l) (e := e) (R := R) (below := below) (meth := meth) (H := H) (cells := kc) (slots := ks) (locs := locs) (C := pm_on 5) (g := F0 m pc ls (.ref b :: S)) (As := []) (rest := S) (b := b) ⟨c1, c2, c3, c4, c5⟩ (cv_met l sd D cA b v H.size fs) (cwV 0 c5 (pm_goodIn _ (fun w hw => by
      simp only [wsV, List.mem_append, List.mem_cons, List.not_mem_nil, or_false] at hw
      rcases hw with (rfl | rfl | rfl | rfl) | hw
      · exact q1
      · exact (pm_at_tb (h := 13069) rfl rfl)
      · exact (pm_at_tb (h := 13070) rfl rfl)
      · exact (pm_at_tb (h := 12012) rfl rfl)
      · rcases List.mem_cons.mp hw with rfl | hw
        · exact g1
        · exact hw)) rfl rfl rfl ⟨g2, g4⟩ ⟨hR.1, by show 8 + (1 + 11) + 60 ≤ R.locals; omega⟩) ⟨cn_blind, ?_, fun U hU hW => ⟨rfl, by rw [hU], by rw [hU]; exact hP1, va_K.moved hW.alike c6, hD1, by rw [hU]; exact ((c8.2.kept hS.2.1).narrow hF1).warm hW⟩⟩ rfl rfl (by show ls.size = _; rw [hl.1, hN]) rfl (lv_room h8) hd hf
  · intro T hT X
    obtain ⟨vv, st₀, tt, T', LL, h0, X', hL, e1, e2, ⟨hv, hh⟩, st⟩ := hrun T hT X
    cases hv
    have hLL : LL = [] := by
      cases LL with
      | nil => rfl
      | cons a b => exact (hL a List.mem_cons_self).elim
    subst hLL
    rw [List.append_nil] at X'
    obtain ⟨t2, a1, b1⟩ := k hN H locs ls hP hD hS hl T' (by rw [e1, hh, h0]) X'
    exact ⟨t2, st t2 a1, b1⟩
  · exact va_recv c6 hP1 (ci := 5) (q0 := 0) rfl rfl
theorem d163_0 : decode prog_3_method_1_code 0 = .ok (.aload_n 0, 1) := by decide +kernel
theorem d163_1 : decode prog_3_method_1_code 1 = .ok (.invokespecial 3, 3) := by decide +kernel
theorem d163_4 : decode prog_3_method_1_code 4 = .ok (.aload_n 0, 1) := by decide +kernel
theorem d163_5 : decode prog_3_method_1_code 5 = .ok (.aload_n 1, 1) := by decide +kernel
theorem d163_6 : decode prog_3_method_1_code 6 = .ok (.putfield 9, 3) := by decide +kernel
theorem d163_9 : decode prog_3_method_1_code 9 = .ok (.aload_n 0, 1) := by decide +kernel
theorem d163_10 : decode prog_3_method_1_code 10 = .ok (.aload_n 2, 1) := by decide +kernel
theorem d163_11 : decode prog_3_method_1_code 11 = .ok (.putfield 15, 3) := by decide +kernel
theorem d163_14 : decode prog_3_method_1_code 14 = .ok (.aload_n 0, 1) := by decide +kernel
theorem d163_15 : decode prog_3_method_1_code 15 = .ok (.aload_n 2, 1) := by decide +kernel
theorem d163_16 : decode prog_3_method_1_code 16 = .ok (.invokevirtual 19, 3) := by decide +kernel
theorem d163_19 : decode prog_3_method_1_code 19 = .ok (.putfield 25, 3) := by decide +kernel
theorem d163_22 : decode prog_3_method_1_code 22 = .ok (.return_, 1) := by decide +kernel
theorem m163 : pm_m 163 = some (⟨"TypeRules$Expressions", "<init>", "(LTypeRules$Tree;LTypeRules$Blocks;)V"⟩, prog_3_method_1_code, 3, none, 8, 2, 9) := rfl
theorem cc163 (l : Launch) (sd : Nat → Nat) (D : va_G) (cA : Nat → ClassId) (h0 : Nat) (h1 h2 h3 b1 b2 b3 b4 b5 b6 b7 : Nat) (sz : Nat) : Met l ⟨"TypeRules$Expressions", "<init>", "(LTypeRules$Tree;LTypeRules$Blocks;)V"⟩ (pm_ws ⟨"TypeRules$Expressions", "<init>", "(LTypeRules$Tree;LTypeRules$Blocks;)V"⟩ prog_3_method_1_code 3 none) ({ frames := 2, cells := 0, slots := 0, locals := 120 }) (cn_Pre sd D cA [(h0, .inr (8, [.null, .null, .null])), (h2, .inr (5, [.ref h3, .ref b1, .ref b2, .ref b3, .ref b4, .ref b5, .ref b6, .ref b7, .int 0, .int 0, .int 0]))] sz [.ref h0, .ref h1, .ref h2]) (cn_Post D cA [(h0, .inr (8, [.null, .null, .null])), (h2, .inr (5, [.ref h3, .ref b1, .ref b2, .ref b3, .ref b4, .ref b5, .ref b6, .ref b7, .int 0, .int 0, .int 0]))] sz (fun u => [(h0, .inr (8, [.ref h1, .ref h2, .ref h3])), (h2, .inr (5, [.ref h3, .ref b1, .ref b2, .ref b3, .ref b4, .ref b5, .ref b6, .ref b7, .int 0, .int 0, .int 0]))]) 0) 0 0 (va_A [(h0, .inr (8, [.null, .null, .null])), (h2, .inr (5, [.ref h3, .ref b1, .ref b2, .ref b3, .ref b4, .ref b5, .ref b6, .ref b7, .int 0, .int 0, .int 0]))] sz) := by
  refine cn_met m163 rfl (Nat.le_of_ble_eq_true rfl) (fun p e s m below meth c hsz hlocks hr cx => ?_)
  refine cg_l cx 1 d163_0 rfl rfl rfl rfl ?_
  refine cg_oi cx 4 (pm_at_tb (h := 13077) rfl rfl) (pm_at_tb (h := 12026) rfl rfl) (pm_at_tb (h := 12027) rfl rfl) d163_1 (Nat.le_of_ble_eq_true rfl) ⟨Nat.le_of_ble_eq_true rfl, Nat.le_of_ble_eq_true rfl⟩ rfl ?_
  refine cg_l cx 5 d163_4 rfl rfl rfl rfl ?_
  refine cg_l cx 6 d163_5 rfl rfl rfl rfl ?_
  refine cg_pf cx 9 0 (ws' := [(h0, .inr (8, [.ref h1, .null, .null])), (h2, .inr (5, [.ref h3, .ref b1, .ref b2, .ref b3, .ref b4, .ref b5, .ref b6, .ref b7, .int 0, .int 0, .int 0]))]) (ci := 8) (j := 0) (fs := [.null, .null, .null]) rfl rfl rfl rfl rfl rfl (Nat.le_of_ble_eq_true rfl) rfl d163_6 rfl ?_
  refine cg_l cx 10 d163_9 rfl rfl rfl rfl ?_
  refine cg_l cx 11 d163_10 rfl rfl rfl rfl ?_
  refine cg_pf cx 14 0 (ws' := [(h0, .inr (8, [.ref h1, .ref h2, .null])), (h2, .inr (5, [.ref h3, .ref b1, .ref b2, .ref b3, .ref b4, .ref b5, .ref b6, .ref b7, .int 0, .int 0, .int 0]))]) (ci := 8) (j := 1) (fs := [.ref h1, .null, .null]) rfl rfl rfl rfl rfl rfl (Nat.le_of_ble_eq_true rfl) rfl d163_11 rfl ?_
  refine cg_l cx 15 d163_14 rfl rfl rfl rfl ?_
  refine cg_l cx 16 d163_15 rfl rfl rfl rfl ?_
  refine cg_vr cx 19 1 rfl (pm_at_tb (h := 13078) rfl rfl) d163_16 (Nat.le_of_ble_eq_true rfl) ⟨Nat.le_of_ble_eq_true rfl, Nat.le_of_ble_eq_true rfl⟩ ⟨Nat.le_of_ble_eq_true rfl, Nat.le_of_ble_eq_true rfl⟩ rfl ?_
  refine cg_pf cx 22 0 (ws' := [(h0, .inr (8, [.ref h1, .ref h2, .ref h3])), (h2, .inr (5, [.ref h3, .ref b1, .ref b2, .ref b3, .ref b4, .ref b5, .ref b6, .ref b7, .int 0, .int 0, .int 0]))]) (ci := 8) (j := 2) (fs := [.ref h1, .ref h2, .null]) rfl rfl rfl rfl rfl rfl (Nat.le_of_ble_eq_true rfl) rfl d163_19 rfl ?_
  exact cg_rv cx hsz hlocks hr [] rfl [0, 1] (by decide) rfl d163_22
theorem d179_0 : decode prog_8_method_1_code 0 = .ok (.aload_n 0, 1) := by decide +kernel
theorem d179_1 : decode prog_8_method_1_code 1 = .ok (.invokespecial 3, 3) := by decide +kernel
theorem d179_4 : decode prog_8_method_1_code 4 = .ok (.aload_n 0, 1) := by decide +kernel
theorem d179_5 : decode prog_8_method_1_code 5 = .ok (.aload_n 1, 1) := by decide +kernel
theorem d179_6 : decode prog_8_method_1_code 6 = .ok (.putfield 9, 3) := by decide +kernel
theorem d179_9 : decode prog_8_method_1_code 9 = .ok (.aload_n 0, 1) := by decide +kernel
theorem d179_10 : decode prog_8_method_1_code 10 = .ok (.aload_n 2, 1) := by decide +kernel
theorem d179_11 : decode prog_8_method_1_code 11 = .ok (.putfield 15, 3) := by decide +kernel
theorem d179_14 : decode prog_8_method_1_code 14 = .ok (.aload_n 0, 1) := by decide +kernel
theorem d179_15 : decode prog_8_method_1_code 15 = .ok (.aload_n 2, 1) := by decide +kernel
theorem d179_16 : decode prog_8_method_1_code 16 = .ok (.invokevirtual 19, 3) := by decide +kernel
theorem d179_19 : decode prog_8_method_1_code 19 = .ok (.putfield 25, 3) := by decide +kernel
theorem d179_22 : decode prog_8_method_1_code 22 = .ok (.return_, 1) := by decide +kernel
theorem m179 : pm_m 179 = some (⟨"TypeRules$Statements", "<init>", "(LTypeRules$Tree;LTypeRules$Blocks;)V"⟩, prog_8_method_1_code, 3, none, 9, 2, 10) := rfl
theorem cc179 (l : Launch) (sd : Nat → Nat) (D : va_G) (cA : Nat → ClassId) (h0 : Nat) (h1 h2 h3 b1 b2 b3 b4 b5 b6 b7 : Nat) (sz : Nat) : Met l ⟨"TypeRules$Statements", "<init>", "(LTypeRules$Tree;LTypeRules$Blocks;)V"⟩ (pm_ws ⟨"TypeRules$Statements", "<init>", "(LTypeRules$Tree;LTypeRules$Blocks;)V"⟩ prog_8_method_1_code 3 none) ({ frames := 2, cells := 0, slots := 0, locals := 120 }) (cn_Pre sd D cA [(h0, .inr (9, [.null, .null, .null])), (h2, .inr (5, [.ref h3, .ref b1, .ref b2, .ref b3, .ref b4, .ref b5, .ref b6, .ref b7, .int 0, .int 0, .int 0]))] sz [.ref h0, .ref h1, .ref h2]) (cn_Post D cA [(h0, .inr (9, [.null, .null, .null])), (h2, .inr (5, [.ref h3, .ref b1, .ref b2, .ref b3, .ref b4, .ref b5, .ref b6, .ref b7, .int 0, .int 0, .int 0]))] sz (fun u => [(h0, .inr (9, [.ref h1, .ref h2, .ref h3])), (h2, .inr (5, [.ref h3, .ref b1, .ref b2, .ref b3, .ref b4, .ref b5, .ref b6, .ref b7, .int 0, .int 0, .int 0]))]) 0) 0 0 (va_A [(h0, .inr (9, [.null, .null, .null])), (h2, .inr (5, [.ref h3, .ref b1, .ref b2, .ref b3, .ref b4, .ref b5, .ref b6, .ref b7, .int 0, .int 0, .int 0]))] sz) := by
  refine cn_met m179 rfl (Nat.le_of_ble_eq_true rfl) (fun p e s m below meth c hsz hlocks hr cx => ?_)
  refine cg_l cx 1 d179_0 rfl rfl rfl rfl ?_
  refine cg_oi cx 4 (pm_at_tb (h := 13094) rfl rfl) (pm_at_tb (h := 12026) rfl rfl) (pm_at_tb (h := 12027) rfl rfl) d179_1 (Nat.le_of_ble_eq_true rfl) ⟨Nat.le_of_ble_eq_true rfl, Nat.le_of_ble_eq_true rfl⟩ rfl ?_
  refine cg_l cx 5 d179_4 rfl rfl rfl rfl ?_
  refine cg_l cx 6 d179_5 rfl rfl rfl rfl ?_
  refine cg_pf cx 9 0 (ws' := [(h0, .inr (9, [.ref h1, .null, .null])), (h2, .inr (5, [.ref h3, .ref b1, .ref b2, .ref b3, .ref b4, .ref b5, .ref b6, .ref b7, .int 0, .int 0, .int 0]))]) (ci := 9) (j := 0) (fs := [.null, .null, .null]) rfl rfl rfl rfl rfl rfl (Nat.le_of_ble_eq_true rfl) rfl d179_6 rfl ?_
  refine cg_l cx 10 d179_9 rfl rfl rfl rfl ?_
  refine cg_l cx 11 d179_10 rfl rfl rfl rfl ?_
  refine cg_pf cx 14 0 (ws' := [(h0, .inr (9, [.ref h1, .ref h2, .null])), (h2, .inr (5, [.ref h3, .ref b1, .ref b2, .ref b3, .ref b4, .ref b5, .ref b6, .ref b7, .int 0, .int 0, .int 0]))]) (ci := 9) (j := 1) (fs := [.ref h1, .null, .null]) rfl rfl rfl rfl rfl rfl (Nat.le_of_ble_eq_true rfl) rfl d179_11 rfl ?_
  refine cg_l cx 15 d179_14 rfl rfl rfl rfl ?_
  refine cg_l cx 16 d179_15 rfl rfl rfl rfl ?_
  refine cg_vr cx 19 1 rfl (pm_at_tb (h := 13095) rfl rfl) d179_16 (Nat.le_of_ble_eq_true rfl) ⟨Nat.le_of_ble_eq_true rfl, Nat.le_of_ble_eq_true rfl⟩ ⟨Nat.le_of_ble_eq_true rfl, Nat.le_of_ble_eq_true rfl⟩ rfl ?_
  refine cg_pf cx 22 0 (ws' := [(h0, .inr (9, [.ref h1, .ref h2, .ref h3])), (h2, .inr (5, [.ref h3, .ref b1, .ref b2, .ref b3, .ref b4, .ref b5, .ref b6, .ref b7, .int 0, .int 0, .int 0]))]) (ci := 9) (j := 2) (fs := [.ref h1, .ref h2, .null]) rfl rfl rfl rfl rfl rfl (Nat.le_of_ble_eq_true rfl) rfl d179_19 rfl ?_
  exact cg_rv cx hsz hlocks hr [] rfl [0, 1] (by decide) rfl d179_22
theorem d140_0 : decode prog_7_method_1_code 0 = .ok (.aload_n 0, 1) := by decide +kernel
theorem d140_1 : decode prog_7_method_1_code 1 = .ok (.invokespecial 3, 3) := by decide +kernel
theorem d140_4 : decode prog_7_method_1_code 4 = .ok (.aload_n 0, 1) := by decide +kernel
theorem d140_5 : decode prog_7_method_1_code 5 = .ok (.aload_n 1, 1) := by decide +kernel
theorem d140_6 : decode prog_7_method_1_code 6 = .ok (.putfield 9, 3) := by decide +kernel
theorem d140_9 : decode prog_7_method_1_code 9 = .ok (.aload_n 0, 1) := by decide +kernel
theorem d140_10 : decode prog_7_method_1_code 10 = .ok (.aload_n 2, 1) := by decide +kernel
theorem d140_11 : decode prog_7_method_1_code 11 = .ok (.putfield 15, 3) := by decide +kernel
theorem d140_14 : decode prog_7_method_1_code 14 = .ok (.aload_n 0, 1) := by decide +kernel
theorem d140_15 : decode prog_7_method_1_code 15 = .ok (.aload_n 3, 1) := by decide +kernel
theorem d140_16 : decode prog_7_method_1_code 16 = .ok (.putfield 19, 3) := by decide +kernel
theorem d140_19 : decode prog_7_method_1_code 19 = .ok (.aload_n 0, 1) := by decide +kernel
theorem d140_20 : decode prog_7_method_1_code 20 = .ok (.aload_n 3, 1) := by decide +kernel
theorem d140_21 : decode prog_7_method_1_code 21 = .ok (.invokevirtual 23, 3) := by decide +kernel
theorem d140_24 : decode prog_7_method_1_code 24 = .ok (.putfield 29, 3) := by decide +kernel
theorem d140_27 : decode prog_7_method_1_code 27 = .ok (.aload_n 0, 1) := by decide +kernel
theorem d140_28 : decode prog_7_method_1_code 28 = .ok (.new 32, 3) := by decide +kernel
theorem d140_31 : decode prog_7_method_1_code 31 = .ok (.dup, 1) := by decide +kernel
theorem d140_32 : decode prog_7_method_1_code 32 = .ok (.aload_n 1, 1) := by decide +kernel
theorem d140_33 : decode prog_7_method_1_code 33 = .ok (.aload_n 3, 1) := by decide +kernel
theorem d140_34 : decode prog_7_method_1_code 34 = .ok (.invokespecial 34, 3) := by decide +kernel
theorem d140_37 : decode prog_7_method_1_code 37 = .ok (.putfield 37, 3) := by decide +kernel
theorem d140_40 : decode prog_7_method_1_code 40 = .ok (.aload_n 0, 1) := by decide +kernel
theorem d140_41 : decode prog_7_method_1_code 41 = .ok (.new 41, 3) := by decide +kernel
theorem d140_44 : decode prog_7_method_1_code 44 = .ok (.dup, 1) := by decide +kernel
theorem d140_45 : decode prog_7_method_1_code 45 = .ok (.aload_n 1, 1) := by decide +kernel
theorem d140_46 : decode prog_7_method_1_code 46 = .ok (.aload_n 3, 1) := by decide +kernel
theorem d140_47 : decode prog_7_method_1_code 47 = .ok (.invokespecial 43, 3) := by decide +kernel
theorem d140_50 : decode prog_7_method_1_code 50 = .ok (.putfield 44, 3) := by decide +kernel
theorem d140_53 : decode prog_7_method_1_code 53 = .ok (.aload_n 0, 1) := by decide +kernel
theorem d140_54 : decode prog_7_method_1_code 54 = .ok (.sipush 960, 3) := by decide +kernel
theorem d140_57 : decode prog_7_method_1_code 57 = .ok (.newarray .int, 2) := by decide +kernel
theorem d140_59 : decode prog_7_method_1_code 59 = .ok (.putfield 48, 3) := by decide +kernel
theorem d140_62 : decode prog_7_method_1_code 62 = .ok (.aload_n 0, 1) := by decide +kernel
theorem d140_63 : decode prog_7_method_1_code 63 = .ok (.iconst (-1), 1) := by decide +kernel
theorem d140_64 : decode prog_7_method_1_code 64 = .ok (.putfield 52, 3) := by decide +kernel
theorem d140_67 : decode prog_7_method_1_code 67 = .ok (.return_, 1) := by decide +kernel
theorem m140 : pm_m 140 = some (⟨"TypeRules$Rules", "<init>", "(LTypeRules$Tree;LTypeRules$Names;LTypeRules$Blocks;)V"⟩, prog_7_method_1_code, 4, none, 7, 3, 8) := rfl
theorem cc140 (l : Launch) (sd : Nat → Nat) (D : va_G) (cA : Nat → ClassId) (h0 : Nat) (h1 h2 h3 h4 b1 b2 b3 b4 b5 b6 b7 : Nat) (sz : Nat) : Met l ⟨"TypeRules$Rules", "<init>", "(LTypeRules$Tree;LTypeRules$Names;LTypeRules$Blocks;)V"⟩ (pm_ws ⟨"TypeRules$Rules", "<init>", "(LTypeRules$Tree;LTypeRules$Names;LTypeRules$Blocks;)V"⟩ prog_7_method_1_code 4 none) ({ frames := 3, cells := 3, slots := 966, locals := 180 }) (cn_Pre sd D cA [(h0, .inr (7, [.null, .null, .null, .null, .null, .null, .null, .int 0])), (h3, .inr (5, [.ref h4, .ref b1, .ref b2, .ref b3, .ref b4, .ref b5, .ref b6, .ref b7, .int 0, .int 0, .int 0]))] sz [.ref h0, .ref h1, .ref h2, .ref h3]) (cn_Post D cA [(h0, .inr (7, [.null, .null, .null, .null, .null, .null, .null, .int 0])), (h3, .inr (5, [.ref h4, .ref b1, .ref b2, .ref b3, .ref b4, .ref b5, .ref b6, .ref b7, .int 0, .int 0, .int 0]))] sz (fun u => [(h0, .inr (7, [.ref h1, .ref h2, .ref h3, .ref h4, .ref (u.getD 0 0), .ref (u.getD 1 0), .ref (u.getD 2 0), .int (-1)])), (u.getD 0 0, .inr (8, [.ref h1, .ref h3, .ref h4])), (u.getD 1 0, .inr (9, [.ref h1, .ref h3, .ref h4])), (h3, .inr (5, [.ref h4, .ref b1, .ref b2, .ref b3, .ref b4, .ref b5, .ref b6, .ref b7, .int 0, .int 0, .int 0])), (u.getD 2 0, .inl (cA 0, cg_z 0 960))]) 3) 3 966 (va_A [(h0, .inr (7, [.null, .null, .null, .null, .null, .null, .null, .int 0])), (h3, .inr (5, [.ref h4, .ref b1, .ref b2, .ref b3, .ref b4, .ref b5, .ref b6, .ref b7, .int 0, .int 0, .int 0]))] sz) := by
  refine cn_met m140 rfl (Nat.le_of_ble_eq_true rfl) (fun p e s m below meth c hsz hlocks hr cx => ?_)
  refine cg_l cx 1 d140_0 rfl rfl rfl rfl ?_
  refine cg_oi cx 4 (pm_at_tb (h := 13067) rfl rfl) (pm_at_tb (h := 12026) rfl rfl) (pm_at_tb (h := 12027) rfl rfl) d140_1 (Nat.le_of_ble_eq_true rfl) ⟨Nat.le_of_ble_eq_true rfl, Nat.le_of_ble_eq_true rfl⟩ rfl ?_
  refine cg_l cx 5 d140_4 rfl rfl rfl rfl ?_
  refine cg_l cx 6 d140_5 rfl rfl rfl rfl ?_
  refine cg_pf cx 9 0 (ws' := [(h0, .inr (7, [.ref h1, .null, .null, .null, .null, .null, .null, .int 0])), (h3, .inr (5, [.ref h4, .ref b1, .ref b2, .ref b3, .ref b4, .ref b5, .ref b6, .ref b7, .int 0, .int 0, .int 0]))]) (ci := 7) (j := 0) (fs := [.null, .null, .null, .null, .null, .null, .null, .int 0]) rfl rfl rfl rfl rfl rfl (Nat.le_of_ble_eq_true rfl) rfl d140_6 rfl ?_
  refine cg_l cx 10 d140_9 rfl rfl rfl rfl ?_
  refine cg_l cx 11 d140_10 rfl rfl rfl rfl ?_
  refine cg_pf cx 14 0 (ws' := [(h0, .inr (7, [.ref h1, .ref h2, .null, .null, .null, .null, .null, .int 0])), (h3, .inr (5, [.ref h4, .ref b1, .ref b2, .ref b3, .ref b4, .ref b5, .ref b6, .ref b7, .int 0, .int 0, .int 0]))]) (ci := 7) (j := 1) (fs := [.ref h1, .null, .null, .null, .null, .null, .null, .int 0]) rfl rfl rfl rfl rfl rfl (Nat.le_of_ble_eq_true rfl) rfl d140_11 rfl ?_
  refine cg_l cx 15 d140_14 rfl rfl rfl rfl ?_
  refine cg_l cx 16 d140_15 rfl rfl rfl rfl ?_
  refine cg_pf cx 19 0 (ws' := [(h0, .inr (7, [.ref h1, .ref h2, .ref h3, .null, .null, .null, .null, .int 0])), (h3, .inr (5, [.ref h4, .ref b1, .ref b2, .ref b3, .ref b4, .ref b5, .ref b6, .ref b7, .int 0, .int 0, .int 0]))]) (ci := 7) (j := 2) (fs := [.ref h1, .ref h2, .null, .null, .null, .null, .null, .int 0]) rfl rfl rfl rfl rfl rfl (Nat.le_of_ble_eq_true rfl) rfl d140_16 rfl ?_
  refine cg_l cx 20 d140_19 rfl rfl rfl rfl ?_
  refine cg_l cx 21 d140_20 rfl rfl rfl rfl ?_
  refine cg_vr cx 24 1 rfl (pm_at_tb (h := 13068) rfl rfl) d140_21 (Nat.le_of_ble_eq_true rfl) ⟨Nat.le_of_ble_eq_true rfl, Nat.le_of_ble_eq_true rfl⟩ ⟨Nat.le_of_ble_eq_true rfl, Nat.le_of_ble_eq_true rfl⟩ rfl ?_
  refine cg_pf cx 27 0 (ws' := [(h0, .inr (7, [.ref h1, .ref h2, .ref h3, .ref h4, .null, .null, .null, .int 0])), (h3, .inr (5, [.ref h4, .ref b1, .ref b2, .ref b3, .ref b4, .ref b5, .ref b6, .ref b7, .int 0, .int 0, .int 0]))]) (ci := 7) (j := 3) (fs := [.ref h1, .ref h2, .ref h3, .null, .null, .null, .null, .int 0]) rfl rfl rfl rfl rfl rfl (Nat.le_of_ble_eq_true rfl) rfl d140_24 rfl ?_
  refine cg_l cx 28 d140_27 rfl rfl rfl rfl ?_
  refine cg_nw cx 31 (ci := 8) (fs := [.null, .null, .null]) (pm_at_tb (h := 13072) rfl rfl) (pm_at_tb (h := 13073) rfl rfl) (pm_at_tb (h := 12015) rfl rfl) rfl (fun j hj => by rcases (show j = 0 ∨ j = 1 ∨ j = 2 by omega) with rfl | rfl | rfl <;> rfl) d140_28 ⟨Nat.le_of_ble_eq_true rfl, Nat.le_of_ble_eq_true rfl⟩ rfl (fun q0 => ?_)
  refine cg_a cx 32 d140_31 rfl rfl ?_
  refine cg_l cx 33 d140_32 rfl rfl rfl rfl ?_
  refine cg_l cx 34 d140_33 rfl rfl rfl rfl ?_
  refine cg_ci cx 37 [2, 1] [0] (wr := [(h0, .inr (7, [.ref h1, .ref h2, .ref h3, .ref h4, .null, .null, .null, .int 0]))]) [.ref h1, .ref h3] m163 rfl (fun sz => cc163 l sd D cA q0 h1 h3 h4 b1 b2 b3 b4 b5 b6 b7 sz) rfl rfl (by decide) (by decide) (by decide) (pm_at_tb (h := 13074) rfl rfl) (pm_at_tb (h := 13075) rfl rfl) (pm_at_tb (h := 12015) rfl rfl) ⟨rfl, rfl⟩ d140_34 rfl rfl (Nat.le_of_ble_eq_true rfl) ⟨Nat.le_of_ble_eq_true rfl, Nat.le_of_ble_eq_true rfl⟩ ⟨Nat.le_of_ble_eq_true rfl, Nat.le_of_ble_eq_true rfl⟩ rfl (fun u0 hu0 => ?_)
  refine cg_pf cx 40 0 (ws' := [(h0, .inr (7, [.ref h1, .ref h2, .ref h3, .ref h4, .ref q0, .null, .null, .int 0])), (q0, .inr (8, [.ref h1, .ref h3, .ref h4])), (h3, .inr (5, [.ref h4, .ref b1, .ref b2, .ref b3, .ref b4, .ref b5, .ref b6, .ref b7, .int 0, .int 0, .int 0]))]) (ci := 7) (j := 4) (fs := [.ref h1, .ref h2, .ref h3, .ref h4, .null, .null, .null, .int 0]) rfl rfl rfl rfl rfl rfl (Nat.le_of_ble_eq_true rfl) rfl d140_37 rfl ?_
  refine cg_l cx 41 d140_40 rfl rfl rfl rfl ?_
  refine cg_nw cx 44 (ci := 9) (fs := [.null, .null, .null]) (pm_at_tb (h := 13089) rfl rfl) (pm_at_tb (h := 13090) rfl rfl) (pm_at_tb (h := 12016) rfl rfl) rfl (fun j hj => by rcases (show j = 0 ∨ j = 1 ∨ j = 2 by omega) with rfl | rfl | rfl <;> rfl) d140_41 ⟨Nat.le_of_ble_eq_true rfl, Nat.le_of_ble_eq_true rfl⟩ rfl (fun q1 => ?_)
  refine cg_a cx 45 d140_44 rfl rfl ?_
  refine cg_l cx 46 d140_45 rfl rfl rfl rfl ?_
  refine cg_l cx 47 d140_46 rfl rfl rfl rfl ?_
  refine cg_ci cx 50 [3, 2] [0, 1] (wr := [(h0, .inr (7, [.ref h1, .ref h2, .ref h3, .ref h4, .ref q0, .null, .null, .int 0])), (q0, .inr (8, [.ref h1, .ref h3, .ref h4]))]) [.ref h1, .ref h3] m179 rfl (fun sz => cc179 l sd D cA q1 h1 h3 h4 b1 b2 b3 b4 b5 b6 b7 sz) rfl rfl (by decide) (by decide) (by decide) (pm_at_tb (h := 13091) rfl rfl) (pm_at_tb (h := 13092) rfl rfl) (pm_at_tb (h := 12016) rfl rfl) ⟨rfl, rfl⟩ d140_47 rfl rfl (Nat.le_of_ble_eq_true rfl) ⟨Nat.le_of_ble_eq_true rfl, Nat.le_of_ble_eq_true rfl⟩ ⟨Nat.le_of_ble_eq_true rfl, Nat.le_of_ble_eq_true rfl⟩ rfl (fun u1 hu1 => ?_)
  refine cg_pf cx 53 0 (ws' := [(h0, .inr (7, [.ref h1, .ref h2, .ref h3, .ref h4, .ref q0, .ref q1, .null, .int 0])), (q0, .inr (8, [.ref h1, .ref h3, .ref h4])), (q1, .inr (9, [.ref h1, .ref h3, .ref h4])), (h3, .inr (5, [.ref h4, .ref b1, .ref b2, .ref b3, .ref b4, .ref b5, .ref b6, .ref b7, .int 0, .int 0, .int 0]))]) (ci := 7) (j := 5) (fs := [.ref h1, .ref h2, .ref h3, .ref h4, .ref q0, .null, .null, .int 0]) rfl rfl rfl rfl rfl rfl (Nat.le_of_ble_eq_true rfl) rfl d140_50 rfl ?_
  refine cg_l cx 54 d140_53 rfl rfl rfl rfl ?_
  refine cg_k cx 57 960 d140_54 (by decide) rfl ?_
  refine cg_na cx 59 0 960 (by decide) (pm_at_tb (h := 12132) rfl rfl) (by decide) (by decide) (by decide) d140_57 ⟨Nat.le_of_ble_eq_true rfl, Nat.le_of_ble_eq_true rfl⟩ rfl (fun q2 => ?_)
  refine cg_pf cx 62 0 (ws' := [(h0, .inr (7, [.ref h1, .ref h2, .ref h3, .ref h4, .ref q0, .ref q1, .ref q2, .int 0])), (q0, .inr (8, [.ref h1, .ref h3, .ref h4])), (q1, .inr (9, [.ref h1, .ref h3, .ref h4])), (h3, .inr (5, [.ref h4, .ref b1, .ref b2, .ref b3, .ref b4, .ref b5, .ref b6, .ref b7, .int 0, .int 0, .int 0])), (q2, .inl (cA 0, cg_z 0 960))]) (ci := 7) (j := 6) (fs := [.ref h1, .ref h2, .ref h3, .ref h4, .ref q0, .ref q1, .null, .int 0]) rfl rfl rfl rfl rfl rfl (Nat.le_of_ble_eq_true rfl) rfl d140_59 rfl ?_
  refine cg_l cx 63 d140_62 rfl rfl rfl rfl ?_
  refine cg_k cx 64 (-1) d140_63 (by decide) rfl ?_
  refine cg_pf cx 67 0 (ws' := [(h0, .inr (7, [.ref h1, .ref h2, .ref h3, .ref h4, .ref q0, .ref q1, .ref q2, .int (-1)])), (q0, .inr (8, [.ref h1, .ref h3, .ref h4])), (q1, .inr (9, [.ref h1, .ref h3, .ref h4])), (h3, .inr (5, [.ref h4, .ref b1, .ref b2, .ref b3, .ref b4, .ref b5, .ref b6, .ref b7, .int 0, .int 0, .int 0])), (q2, .inl (cA 0, cg_z 0 960))]) (ci := 7) (j := 7) (fs := [.ref h1, .ref h2, .ref h3, .ref h4, .ref q0, .ref q1, .ref q2, .int 0]) rfl rfl rfl rfl rfl rfl (Nat.le_of_ble_eq_true rfl) rfl d140_64 rfl ?_
  exact cg_rv cx hsz hlocks hr [q0, q1, q2] rfl [0, 1, 2, 3, 4] (by decide) rfl d140_67
