/-! STRING CONSTANTS: toCharArray -/
theorem sb_ok : ∀ j, j < 9 → ∀ k, k < pm_sln j → pm_nr 1 (((pm_sbt j k &&& 255).toUInt32 % 65536).toInt32) = pm_sbt j k := by decide +kernel
theorem sb_len : ∀ j, j < 9 → pm_sln j ≤ 100 := by decide +kernel
/-- the chars of constant j, the first n, over f -/
def sb_F (j n : Nat) (f : Nat → Int32) : Nat → Int32 := fun k => if k < n then pm_sbt j k else f k
theorem sb_F0 {j : Nat} {f : Nat → Int32} : sb_F j 0 f = f := by funext k; simp [sb_F]
theorem sb_Fs {j n : Nat} {f : Nat → Int32} : upd (sb_F j n f) n (pm_sbt j n) = sb_F j (n + 1) f := by
  funext k
  by_cases h : k = n
  · subst h; rw [pk_us]; simp [sb_F]
  · rw [pk_un h]
    unfold sb_F
    by_cases h2 : k < n
    · rw [if_pos h2, if_pos (by omega)]
    · rw [if_neg h2, if_neg (by omega)]
theorem d324_0 : decode prog_17_method_154_code 0 = .ok (.getstatic 38, 3) := by decide +kernel
theorem d324_3 : decode prog_17_method_154_code 3 = .ok (.ifCond .eq 14, 3) := by decide +kernel
theorem d324_6 : decode prog_17_method_154_code 6 = .ok (.aload_n 0, 1) := by decide +kernel
theorem d324_7 : decode prog_17_method_154_code 7 = .ok (.getfield 15, 3) := by decide +kernel
theorem d324_10 : decode prog_17_method_154_code 10 = .ok (.ifCond .ne 7, 3) := by decide +kernel
theorem d324_13 : decode prog_17_method_154_code 13 = .ok (.iconst 1, 1) := by decide +kernel
theorem d324_14 : decode prog_17_method_154_code 14 = .ok (.goto 4, 3) := by decide +kernel
theorem d324_17 : decode prog_17_method_154_code 17 = .ok (.iconst 0, 1) := by decide +kernel
theorem d324_18 : decode prog_17_method_154_code 18 = .ok (.ireturn, 1) := by decide +kernel
theorem m324 : pm_m 324 = some (⟨"java/lang/String", "isLatin1", "()Z"⟩, prog_17_method_154_code, 1, (some FieldType.boolean), 13, 0, 14) := rfl
theorem sp324 {Y : pm_Y} {d : Nat} {σ : pm_S} {Q : Option Value → pm_S → Prop} {j : Nat} (hj : j < 9) (hQ : Q (some (.int 1)) σ) : pm_call Y (d + 1) 324 [.ref (1100 + j)] σ Q := by
  refine wq_m m324 (Nat.le_of_ble_eq_true rfl) (by decide) rfl ?_
  refine wq_kz 3 d324_0 rfl rfl ?_
  refine wq_b 17 6 d324_3 rfl (by decide) rfl (fun z => absurd z (by decide)) (fun _ => ?_)
  refine wq_l 7 d324_6 rfl rfl rfl rfl ?_
  refine wq_kc 10 d324_7 hj rfl rfl ?_
  refine wq_b 17 13 d324_10 rfl (by decide) rfl (fun z => absurd rfl z) (fun _ => ?_)
  refine wq_k 14 1 d324_13 (by decide) rfl ?_
  refine wq_g 18 d324_14 (by decide) ?_
  exact wq_ri d324_18 (by decide) hQ
theorem d330_0 : decode prog_18_method_49_code 0 = .ok (.iconst 0, 1) := by decide +kernel
theorem d330_1 : decode prog_18_method_49_code 1 = .ok (.istore 5, 2) := by decide +kernel
theorem d330_3 : decode prog_18_method_49_code 3 = .ok (.iload 5, 2) := by decide +kernel
theorem d330_5 : decode prog_18_method_49_code 5 = .ok (.iload 4, 2) := by decide +kernel
theorem d330_7 : decode prog_18_method_49_code 7 = .ok (.if_icmp .ge 26, 3) := by decide +kernel
theorem d330_10 : decode prog_18_method_49_code 10 = .ok (.aload_n 2, 1) := by decide +kernel
theorem d330_11 : decode prog_18_method_49_code 11 = .ok (.iload_n 3, 1) := by decide +kernel
theorem d330_12 : decode prog_18_method_49_code 12 = .ok (.iinc 3 1, 3) := by decide +kernel
theorem d330_15 : decode prog_18_method_49_code 15 = .ok (.aload_n 0, 1) := by decide +kernel
theorem d330_16 : decode prog_18_method_49_code 16 = .ok (.iload_n 1, 1) := by decide +kernel
theorem d330_17 : decode prog_18_method_49_code 17 = .ok (.iinc 1 1, 3) := by decide +kernel
theorem d330_20 : decode prog_18_method_49_code 20 = .ok (.baload, 1) := by decide +kernel
theorem d330_21 : decode prog_18_method_49_code 21 = .ok (.sipush 255, 3) := by decide +kernel
theorem d330_24 : decode prog_18_method_49_code 24 = .ok (.iand, 1) := by decide +kernel
theorem d330_25 : decode prog_18_method_49_code 25 = .ok (.i2c, 1) := by decide +kernel
theorem d330_26 : decode prog_18_method_49_code 26 = .ok (.castore, 1) := by decide +kernel
theorem d330_27 : decode prog_18_method_49_code 27 = .ok (.iinc 5 1, 3) := by decide +kernel
theorem d330_30 : decode prog_18_method_49_code 30 = .ok (.goto (-27), 3) := by decide +kernel
theorem d330_33 : decode prog_18_method_49_code 33 = .ok (.return_, 1) := by decide +kernel
theorem m330 : pm_m 330 = some (⟨"java/lang/StringLatin1", "inflate", "([BI[CII)V"⟩, prog_18_method_49_code, 6, none, 14, 5, 0) := rfl
theorem sb_il {Y : pm_Y} {d : Nat} {σ : pm_S} {Q : Option Value → pm_S → Prop} {j : Nat} {k : Nat} {f : Nat → Int32} (hj : j < 9) (hY : Y[k]? = some (.inl (1, pm_sln j))) (hk : k < 1000) (hQ : Q none (pm_pr σ k (sb_F j (pm_sln j) f))) : ∀ (n i : Nat), i + n = pm_sln j → pm_WP Y (pm_call Y d) 14 prog_18_method_49_code none Q 3 [.ref (1200 + j), .int (nI i), .ref k, .int (nI i), .int (nI (pm_sln j)), .int (nI i)] [] (pm_pr σ k (sb_F j i f)) := by
  have hl := sb_len j hj
  intro n
  induction n with
  | zero =>
    intro i hi
    have : i = pm_sln j := by omega
    subst this
    refine wq_l 5 d330_3 rfl rfl rfl rfl ?_
    refine wq_l 7 d330_5 rfl rfl rfl rfl ?_
    refine wq_b 33 10 d330_7 rfl (by decide) rfl (fun c7 => ?_) (fun c7 => absurd (nI_le (Nat.le_refl _) (by omega)) c7)
    refine wq_rv d330_33 ?_
    exact hQ
  | succ n ih =>
    intro i hi
    have hin : vp_in (nI i) (pm_sln j) := vp_in_nI (by omega) (by omega)
    refine wq_l 5 d330_3 rfl rfl rfl rfl ?_
    refine wq_l 7 d330_5 rfl rfl rfl rfl ?_
    refine wq_b 33 10 d330_7 rfl (by decide) rfl (fun c7 => absurd c7 (nI_ge (by omega) (by omega))) (fun c7 => ?_)
    refine wq_l 11 d330_10 rfl rfl rfl rfl ?_
    refine wq_l 12 d330_11 rfl rfl rfl rfl ?_
    refine wq_i 15 d330_12 rfl rfl rfl ?_
    refine wq_l 16 d330_15 rfl rfl rfl rfl ?_
    refine wq_l 17 d330_16 rfl rfl rfl rfl ?_
    refine wq_i 20 d330_17 rfl rfl rfl ?_
    refine wq_kb 21 d330_20 hj rfl hin ?_
    rw [nI_clamp (by omega)]
    refine wq_k 24 255 d330_21 (by decide) rfl ?_
    refine wq_a 25 d330_24 rfl rfl ?_
    refine wq_a 26 d330_25 rfl rfl ?_
    refine wq_as 27 d330_26 rfl hY rfl hin ?_
    rw [nI_clamp (by omega), sb_ok j hj i (by omega), pm_pr_pr, pm_r22, sb_Fs]
    refine wq_i 30 d330_27 rfl rfl rfl ?_
    refine wq_g 3 d330_30 (by decide) ?_
    rw [show nI i + Int32.ofInt 1 = nI (i + 1) from (nI_succ i).symm]
    exact ih (i + 1) (by omega)
theorem sp330 {Y : pm_Y} {d : Nat} {σ : pm_S} {Q : Option Value → pm_S → Prop} {j : Nat} {k : Nat} (hj : j < 9) (hY : Y[k]? = some (.inl (1, pm_sln j))) (hk : k < 1000) (hQ : Q none (pm_pr σ k (sb_F j (pm_sln j) (σ.2.2 k)))) : pm_call Y (d + 1) 330 [.ref (1200 + j), .int 0, .ref k, .int 0, .int (nI (pm_sln j))] σ Q := by
  refine wq_m m330 (Nat.le_of_ble_eq_true rfl) (by decide) rfl ?_
  refine wq_k 1 0 d330_0 (by decide) rfl ?_
  refine wq_s 3 d330_1 rfl rfl (Nat.le_of_ble_eq_true rfl) rfl rfl ?_
  have h := sb_il (d := d) (f := σ.2.2 k) hj hY hk hQ (pm_sln j) 0 (by omega)
  rw [sb_F0, show pm_pr σ k (σ.2.2 k) = σ from by
    unfold pm_pr
    have : (fun a => if a = k then σ.2.2 k else σ.2.2 a) = σ.2.2 := by funext q; by_cases h : q = k <;> simp [h]
    rw [this]] at h
  exact h
/-! a method that makes cells, by contract -/
theorem cm_met {sd : Nat → Nat} {l : Launch} {D : va_G} {cA : Nat → ClassId} {ws0 : va_W} {sz t : Nat} {As : List Value} {post : Option Value → va_W → Prop} {mc ms : Nat} {rm : Room} {y : MethodName} {cc : ByteArray} {n o na oc : Nat} {rt : Option FieldType} (hm : pm_m t = some (y, cc, n, rt, o, na, oc)) (hlen : (pm_ar As).length ≤ n)
    (body : ∀ (p : Program) (e : Env) (s : State) (m : MethodId) (below : List Frame) (meth : Method) (c : Code), s.heap.size = sz → meth.locks = false → meth.sig.returnType = rt → cg_Cx sd False p rm s m As.toArray meth c D cA (va_A ws0 sz) o cc n → cg_Go p l e rm s m As.toArray below meth c (MQ below (cm_Post D cA ws0 sz post) As.toArray s mc ms (va_A ws0 sz)) D (va_A ws0 sz) n 0 0 ws0 0 (pm_en n As) []) :
    Met l y (pm_ws y cc n rt) rm (cn_Pre sd D cA ws0 sz As) (cm_Post D cA ws0 sz post) mc ms (va_A ws0 sz) := by
  obtain ⟨g1, g2, g3, g4⟩ := pm_m_ok hm
  refine Met.ofW (cc := cc) (maxL := n) (ret := rt) g3 rfl ?_
  intro p e s m args below meth c s₁ B hml hv
  obtain ⟨rfl, hsz, hP, hK, hD0, hX⟩ := hv
  have hts0 := atoms_spec (ws := pm_ws y cc n rt) B.pre
  have hts : ∀ w ∈ pm_tb, w.before As.toArray s = true := fun w hw => hts0 w (List.mem_cons_of_mem _ hw)
  have hown : s.vm.findClass (pm_on o) = some m.cls := by rw [← g2]; exact findClass_of_methodNamed B.named
  subst hsz
  have hD := hD0.self (sz := s.heap.size)
  have hl := lv_entry As (n := n) (by have := pm_ar_len (fun q => q) As; rw [cg_map] at this; rw [this]; exact hlen)
  rw [lg_entry_eq]
  refine body p e s m below meth c rfl B.notSynchronized B.returns ⟨B.exec, B.bytes, hml, hown, hts, hK, fun q h => Or.inr h, fun h => h.elim, hX⟩ (pm_en_len hlen) s.heap [] _ hP hD va_S.rf (pm_en_lh hlen ?_)
  rw [cg_map]
  exact hl
section CK
variable {p : Program} {l : Launch} {e : Env} {R : Room} {s : State} {m : MethodId} {args : Array Value} {below : List Frame} {meth : Method} {c : Code} {Z : State → Prop} {D : va_G} {cA : Nat → ClassId} {A : Nat → Prop}
variable {cc : ByteArray} {o n pc : Nat} {ws ws0 : va_W} {kc ks sz : Nat} {L S S' : List Value} {i : Instr} {N : Nat} {sd : Nat → Nat} {I : Prop} {post : Option Value → va_W → Prop}
theorem cg_rr (cx : cg_Cx sd I p R s m args meth c D cA (va_A ws0 sz) o cc N) {q : Nat} {ty : FieldType} (hlocks : meth.locks = false) (hr : meth.sig.returnType = some ty) (hty : (∃ n, ty = .object n) ∨ ∃ t, ty = .array t) (hpo : post (some (.ref q)) ws) (hd : decode cc pc = .ok (.areturn, 1)) : cg_Go p l e R s m args below meth c (MQ below (cm_Post D cA ws0 sz post) args s kc ks (va_A ws0 sz)) D (va_A ws0 sz) N kc ks ws pc L [.ref q] := by
  obtain ⟨c1, c2, c3, c4, c5, c6, c7, c8⟩ := cx
  intro hN H locs ls hP hD hS hl
  exact W.aret c1 c2 hr hty (Or.inr ⟨_, rfl⟩) (fun t ht hw => ⟨⟨_, ws, rfl, hpo, by rw [ht]; exact hP, va_K.moved hw.alike c6, hD⟩, hS.F ht⟩) hS.2.2 hd hlocks
theorem cg_b (cx : cg_Cx sd I p R s m args meth c D cA A o cc N) (pt pf : Nat) {cd : Prop} {off : Int} (hd : decode cc pc = .ok (i, 3)) (ha : pm_br i S = some (cd, off, S')) (ht : (pc : Int) + off = ((pt : Nat) : Int)) (hp : pc + 3 = pf) (kt : cd → cg_Go p l e R s m args below meth c Z D A N kc ks ws pt L S') (kf : ¬ cd → cg_Go p l e R s m args below meth c Z D A N kc ks ws pf L S') : cg_Go p l e R s m args below meth c Z D A N kc ks ws pc L S := by
  subst hp
  intro hN H locs ls hP hD hS hl
  rw [← cg_map S]
  refine pm_br_W cx.1 cx.2.1 hd ha ht (fun q => ?_) (fun q => ?_)
  · rw [cg_map]; exact kt q hN H locs ls hP hD hS hl
  · rw [cg_map]; exact kf q hN H locs ls hP hD hS hl
theorem cg_g (cx : cg_Cx sd I p R s m args meth c D cA A o cc N) (pt : Nat) {off : Int} (hd : decode cc pc = .ok (.goto off, 3)) (ht : (pc : Int) + off = ((pt : Nat) : Int)) (k : cg_Go p l e R s m args below meth c Z D A N kc ks ws pt L S) : cg_Go p l e R s m args below meth c Z D A N kc ks ws pc L S := by
  intro hN H locs ls hP hD hS hl
  exact lv_goto cx.1 cx.2.1 hd ht (k hN H locs ls hP hD hS hl)
theorem cg_sv (cx : cg_Cx sd I p R s m args meth c D cA A o cc N) (pc' : Nat) {idx j : Nat} (hd : decode cc pc = .ok (.getfield idx, 3)) (hj : j < 9) (hc : pm_sgf o idx = some 1) (hp : pc + 3 = pc') (k : cg_Go p l e R s m args below meth c Z D A N kc ks ws pc' L (.ref (sd (1200 + j)) :: S)) : cg_Go p l e R s m args below meth c Z D A N kc ks ws pc L (.ref (sd (1100 + j)) :: S) := by
  subst hp
  obtain ⟨c1, c2, c3, c4, c5, c6, c7, c8, c9⟩ := cx
  obtain ⟨-, q⟩ := pm_sgf_ok hc
  intro hN H locs ls hP hD hS hl
  exact vk_getf c1 c2 (c9.2.1.1 j hj).2.2.1 hS c4 (c5 _ q) (fun x q => q) hd (k hN H locs ls hP hD hS hl)
theorem cg_sn (cx : cg_Cx sd I p R s m args meth c D cA A o cc N) (pc' : Nat) {j : Nat} (hd : decode cc pc = .ok (.arraylength, 1)) (hj : j < 9) (hp : pc + 1 = pc') (k : cg_Go p l e R s m args below meth c Z D A N kc ks ws pc' L (.int (nI (pm_sln j)) :: S)) : cg_Go p l e R s m args below meth c Z D A N kc ks ws pc L (.ref (sd (1200 + j)) :: S) := by
  subst hp
  obtain ⟨c1, c2, c3, c4, c5, c6, c7, c8, c9⟩ := cx
  intro hN H locs ls hP hD hS hl
  exact va_tlen c1 c2 (c9.2.1.1 j hj).2.2.2 hS (by rw [pm_sln_at hj]; rfl) hd (k hN H locs ls hP hD hS hl)
theorem cg_ks (cx : cg_Cx sd I p R s m args meth c D cA A o cc N) (pc' j : Nat) {idx : Nat} (hd : decode cc pc = .ok (.ldc idx, 2)) (hc : pm_stt o idx = some j) (hp : pc + 2 = pc') (k : cg_Go p l e R s m args below meth c Z D A N kc ks ws pc' L (.ref (sd (1100 + j)) :: S)) : cg_Go p l e R s m args below meth c Z D A N kc ks ws pc L S := by
  subst hp
  obtain ⟨c1, c2, c3, c4, c5, c6, c7, c8, c9⟩ := cx
  intro hN H locs ls hP hD hS hl
  exact va_ldcS c1 c2 c4 (c9.2.2.2 o idx j hc) hd (k hN H locs ls hP hD hS hl)
end CK
theorem cg_wide {p : Program} {l : Launch} {e : Env} {R : Room} {s : State} {m : MethodId} {args : Array Value} {below : List Frame} {meth : Method} {c : Code} {Z : State → Prop} {D : va_G} {A : Nat → Prop} {N kc ks kc' ks' : Nat} {ws : va_W} {pc : Nat} {L S : List Value} (h1 : kc ≤ kc') (h2 : ks ≤ ks') (k : cg_Go p l e R s m args below meth c Z D A N kc' ks' ws pc L S) : cg_Go p l e R s m args below meth c Z D A N kc ks ws pc L S := fun hN H locs ls hP hD hS hl => W.widen h1 h2 (k hN H locs ls hP hD hS hl)
theorem d329_0 : decode prog_18_method_9_code 0 = .ok (.aload_n 0, 1) := by decide +kernel
theorem d329_1 : decode prog_18_method_9_code 1 = .ok (.arraylength, 1) := by decide +kernel
theorem d329_2 : decode prog_18_method_9_code 2 = .ok (.newarray .char, 2) := by decide +kernel
theorem d329_4 : decode prog_18_method_9_code 4 = .ok (.astore_n 1, 1) := by decide +kernel
theorem d329_5 : decode prog_18_method_9_code 5 = .ok (.aload_n 0, 1) := by decide +kernel
theorem d329_6 : decode prog_18_method_9_code 6 = .ok (.iconst 0, 1) := by decide +kernel
theorem d329_7 : decode prog_18_method_9_code 7 = .ok (.aload_n 1, 1) := by decide +kernel
theorem d329_8 : decode prog_18_method_9_code 8 = .ok (.iconst 0, 1) := by decide +kernel
theorem d329_9 : decode prog_18_method_9_code 9 = .ok (.aload_n 0, 1) := by decide +kernel
theorem d329_10 : decode prog_18_method_9_code 10 = .ok (.arraylength, 1) := by decide +kernel
theorem d329_11 : decode prog_18_method_9_code 11 = .ok (.invokestatic 13, 3) := by decide +kernel
theorem d329_14 : decode prog_18_method_9_code 14 = .ok (.aload_n 1, 1) := by decide +kernel
theorem d329_15 : decode prog_18_method_9_code 15 = .ok (.areturn, 1) := by decide +kernel
theorem m329 : pm_m 329 = some (⟨"java/lang/StringLatin1", "toChars", "([B)[C"⟩, prog_18_method_9_code, 2, (some (FieldType.array FieldType.char)), 14, 1, 0) := rfl
/-- toChars: a new array with the chars of the constant -/
theorem cm329 (l : Launch) (sd : Nat → Nat) (D : va_G) (cA : Nat → ClassId) {j : Nat} (hj : j < 9) (sz : Nat) : Met l ⟨"java/lang/StringLatin1", "toChars", "([B)[C"⟩ (pm_ws ⟨"java/lang/StringLatin1", "toChars", "([B)[C"⟩ prog_18_method_9_code 2 (some (FieldType.array FieldType.char))) ({ frames := 2, cells := 1, slots := 100, locals := 100 }) (cn_Pre sd D cA [] sz [.ref (sd (1200 + j))]) (cm_Post D cA [] sz (fun v w => ∃ q, v = some (.ref q) ∧ w = [(q, .inl (cA 1, pm_sln j, .inl (sb_F j (pm_sln j) (fun _ => 0))))])) 1 100 (va_A [] sz) := by
  have hl := sb_len j hj
  refine cm_met m329 (Nat.le_of_ble_eq_true rfl) (fun p e s m below meth c hsz hlocks hr cx => ?_)
  refine cg_l cx 1 d329_0 rfl rfl rfl rfl ?_
  refine cg_sn cx 2 d329_1 hj rfl ?_
  refine cg_na cx 4 1 (pm_sln j) (by decide) (pm_at_tb (h := 12131) rfl rfl) (nI_pos (by omega)) (nI_clamp (by omega)) (by omega) d329_2 ⟨Nat.le_of_ble_eq_true rfl, by show 0 + pm_sln j ≤ 100; omega⟩ rfl (fun q => ?_)
  refine cg_s cx 5 d329_4 rfl rfl (Nat.le_of_ble_eq_true rfl) rfl rfl ?_
  refine cg_l cx 6 d329_5 rfl rfl rfl rfl ?_
  refine cg_k cx 7 0 d329_6 (by decide) rfl ?_
  refine cg_l cx 8 d329_7 rfl rfl rfl rfl ?_
  refine cg_k cx 9 0 d329_8 (by decide) rfl ?_
  refine cg_l cx 10 d329_9 rfl rfl rfl rfl ?_
  refine cg_sn cx 11 d329_10 hj rfl ?_
  have hM := fun sz => cm_pure (Y := [.inl (1, pm_sln j)]) rfl l (D := D) (cA := cA) (sd := sd) (ad := fun k => if k = 0 then q else sd k) (fun k hk => by rw [if_neg (by omega)]) (σ := (fun _ _ => 0, fun _ _ => 0, fun _ _ => 0)) m330 (sp330 (d := 0) (k := 0) (Q := fun r σ' => r = none ∧ σ' = pm_pr (fun _ _ => 0, fun _ _ => 0, fun _ _ => 0) 0 (sb_F j (pm_sln j) (fun _ => 0))) hj rfl (by decide) ⟨rfl, rfl⟩) sz
  have eA : ([.ref (1200 + j), .int 0, .ref 0, .int 0, .int (nI (pm_sln j))] : List Value).map (pm_tau (fun k => if k = 0 then q else sd k)) = [.ref (sd (1200 + j)), .int 0, .ref q, .int 0, .int (nI (pm_sln j))] := by
    simp [pm_tau]
  rw [eA] at hM
  refine cg_cs cx 14 [0] [] (wr := []) (S' := []) [.ref (sd (1200 + j)), .int 0, .ref q, .int 0, .int (nI (pm_sln j))] m330 hM rfl rfl (by decide) (by decide) (by decide) (pm_at_tb (h := 12055) rfl rfl) (pm_at_tb (h := 12056) rfl rfl) (pm_at_tb (h := 12005) rfl rfl) ⟨rfl, rfl⟩ d329_11 rfl rfl (Nat.le_of_ble_eq_true rfl) ⟨Nat.le_of_ble_eq_true rfl, Nat.le_of_ble_eq_true rfl⟩ ⟨Nat.le_of_ble_eq_true rfl, by show 0 + pm_sln j + 0 ≤ 100; omega⟩ rfl (fun v w1 hp => ?_)
  obtain ⟨r, σ', rfl, ⟨rfl, rfl⟩, rfl⟩ := hp
  refine cg_l cx 15 d329_14 rfl rfl rfl rfl ?_
  refine cg_wide (kc := 0 + 1 + 0) (ks := 0 + pm_sln j + 0) (kc' := 1) (ks' := 100) (by decide) (by omega) ?_
  exact cg_rr cx hlocks hr (Or.inr ⟨_, rfl⟩) ⟨q, rfl, rfl⟩ d329_15
theorem d323_0 : decode prog_17_method_129_code 0 = .ok (.aload_n 0, 1) := by decide +kernel
theorem d323_1 : decode prog_17_method_129_code 1 = .ok (.invokevirtual 492, 3) := by decide +kernel
theorem d323_4 : decode prog_17_method_129_code 4 = .ok (.ifCond .eq 13, 3) := by decide +kernel
theorem d323_7 : decode prog_17_method_129_code 7 = .ok (.aload_n 0, 1) := by decide +kernel
theorem d323_8 : decode prog_17_method_129_code 8 = .ok (.getfield 9, 3) := by decide +kernel
theorem d323_11 : decode prog_17_method_129_code 11 = .ok (.invokestatic 299, 3) := by decide +kernel
theorem d323_14 : decode prog_17_method_129_code 14 = .ok (.goto 10, 3) := by decide +kernel
theorem d323_17 : decode prog_17_method_129_code 17 = .ok (.aload_n 0, 1) := by decide +kernel
theorem d323_18 : decode prog_17_method_129_code 18 = .ok (.getfield 9, 3) := by decide +kernel
theorem d323_21 : decode prog_17_method_129_code 21 = .ok (.invokestatic 303, 3) := by decide +kernel
theorem d323_24 : decode prog_17_method_129_code 24 = .ok (.areturn, 1) := by decide +kernel
theorem m323 : pm_m 323 = some (⟨"java/lang/String", "toCharArray", "()[C"⟩, prog_17_method_129_code, 1, (some (FieldType.array FieldType.char)), 13, 0, 14) := rfl
/-- toCharArray -/
theorem cm323 (l : Launch) (sd : Nat → Nat) (D : va_G) (cA : Nat → ClassId) {j : Nat} (hj : j < 9) (sz : Nat) : Met l ⟨"java/lang/String", "toCharArray", "()[C"⟩ (pm_ws ⟨"java/lang/String", "toCharArray", "()[C"⟩ prog_17_method_129_code 1 (some (FieldType.array FieldType.char))) ({ frames := 3, cells := 1, slots := 100, locals := 200 }) (cn_Pre sd D cA [] sz [.ref (sd (1100 + j))]) (cm_Post D cA [] sz (fun v w => ∃ q, v = some (.ref q) ∧ w = [(q, .inl (cA 1, pm_sln j, .inl (sb_F j (pm_sln j) (fun _ => 0))))])) 1 100 (va_A [] sz) := by
  refine cm_met m323 (Nat.le_of_ble_eq_true rfl) (fun p e s m below meth c hsz hlocks hr cx => ?_)
  refine cg_l cx 1 d323_0 rfl rfl rfl rfl ?_
  refine cg_cv cx 4 [] [] (wr := []) [] m324 (cm_pure (Y := []) rfl l (ad := sd) (fun k hk => rfl) (σ := (fun _ _ => 0, fun _ _ => 0, fun _ _ => 0)) m324 (sp324 (d := 0) (j := j) (Q := fun r σ' => r = some (.int 1)) hj rfl)) (fun H locs hP hS => vk_recv (i := j) (adK := fun k => sd (1100 + k)) (adV := fun k => sd (1200 + k)) cx.2.2.2.2.2.2.2.2.2.1 hj hS) rfl rfl (by decide) (by decide) (by decide) (pm_at_tb (h := 12046) rfl rfl) (pm_at_tb (h := 12047) rfl rfl) (pm_at_tb (h := 12048) rfl rfl) (pm_at_tb (h := 12004) rfl rfl) ⟨rfl, rfl⟩ d323_1 rfl rfl (Nat.le_of_ble_eq_true rfl) ⟨Nat.le_of_ble_eq_true rfl, Nat.le_of_ble_eq_true rfl⟩ ⟨Nat.le_of_ble_eq_true rfl, Nat.le_of_ble_eq_true rfl⟩ rfl (fun v w1 hp => ?_)
  obtain ⟨r, σ', rfl, rfl, rfl⟩ := hp
  refine cg_b cx 17 7 d323_4 rfl (by decide) rfl (fun z => absurd z (by decide)) (fun _ => ?_)
  refine cg_l cx 8 d323_7 rfl rfl rfl rfl ?_
  refine cg_sv cx 11 d323_8 hj rfl rfl ?_
  refine cg_cs cx 14 [] [] (wr := []) [_] m329 (cm329 l sd D cA hj) rfl rfl (by decide) (by decide) (by decide) (pm_at_tb (h := 12052) rfl rfl) (pm_at_tb (h := 12053) rfl rfl) (pm_at_tb (h := 12005) rfl rfl) ⟨rfl, rfl⟩ d323_11 rfl rfl (Nat.le_of_ble_eq_true rfl) ⟨Nat.le_of_ble_eq_true rfl, Nat.le_of_ble_eq_true rfl⟩ ⟨Nat.le_of_ble_eq_true rfl, Nat.le_of_ble_eq_true rfl⟩ rfl (fun v w1 hp => ?_)
  obtain ⟨q, rfl, rfl⟩ := hp
  refine cg_g cx 24 d323_14 (by decide) ?_
  exact cg_rr cx hlocks hr (Or.inr ⟨_, rfl⟩) ⟨q, rfl, rfl⟩ d323_24
