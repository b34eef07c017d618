/-! CONSTRUCTORS: a walk over a world that grows; references are addresses -/
theorem cg_tau (v : Value) : pm_tau (fun q => q) v = v := by cases v <;> rfl
theorem cg_map (S : List Value) : S.map (pm_tau (fun q => q)) = S := by
  rw [show pm_tau (fun q => q) = id from funext cg_tau, List.map_id]
section CG
variable {p : Program} {l : Launch} {e : Env} {R : Room} {s : State} {m : MethodId} {args : Array Value} {below : List Frame} {meth : Method} {c : Code} {Z : State → Prop} {D : va_G} {cA : Nat → ClassId} {A : Nat → Prop}
variable {cc : ByteArray} {o n pc : Nat} {ws : va_W} {kc ks : Nat} {L S S' : List Value} {i : Instr} {N : Nat} {sd : Nat → Nat} {I : Prop}
def cg_Go (p : Program) (l : Launch) (e : Env) (R : Room) (s : State) (m : MethodId) (args : Array Value) (below : List Frame) (meth : Method) (c : Code) (Z : State → Prop) (D : va_G) (A : Nat → Prop) (N : Nat) (kc ks : Nat) (ws : va_W) (pc : Nat) (L S : List Value) : Prop := L.length = N → ∀ (H : Heap) (locs : List Loc) (ls : Array Slot), va_P D pm_cl ws H → va_D A ws → va_S A s.heap H locs → pm_lh (fun q => q) ls L → W p l e R s m args below meth c H locs kc ks Z (F0 m pc ls S)
/-- what holds while a constructor runs -/
def cg_Cx (sd : Nat → Nat) (I : Prop) (p : Program) (R : Room) (s : State) (m : MethodId) (args : Array Value) (meth : Method) (c : Code) (D : va_G) (cA : Nat → ClassId) (A : Nat → Prop) (o : Nat) (cc : ByteArray) (N : Nat) : Prop := p.tables.exec = Jvm.exec ∧ c.code = cc ∧ c.maxLocals = N ∧ s.vm.findClass (pm_on o) = some m.cls ∧ (∀ w ∈ pm_tb, w.before args s = true) ∧ va_K D pm_cl (pm_tys cA) s ∧ (∀ q, s.heap.size ≤ q → A q) ∧ (I → meth.name = "<init>") ∧ pm_X sd A s s.heap
theorem cg_a (cx : cg_Cx sd I p R s m args meth c D cA A o cc N) (pc' : Nat) (hd : decode cc pc = .ok (i, n)) (ha : pm_alu i S = some (n, S')) (hp : pc + n = pc') (k : cg_Go p l e R s m args below meth c Z D A N kc ks ws pc' L S') : cg_Go p l e R s m args below meth c Z D A N kc ks ws pc L S := by
  subst hp
  intro hN H locs ls hP hD hS hl
  have h := k hN H locs ls hP hD hS hl
  rw [← cg_map S'] at h
  rw [← cg_map S]
  exact pm_alu_W cx.1 cx.2.1 hd ha h
theorem cg_k (cx : cg_Cx sd I p R s m args meth c D cA A o cc N) (pc' : Nat) (v : Int32) (hd : decode cc pc = .ok (i, n)) (ha : pm_kc i = some (n, v)) (hp : pc + n = pc') (k : cg_Go p l e R s m args below meth c Z D A N kc ks ws pc' L (.int v :: S)) : cg_Go p l e R s m args below meth c Z D A N kc ks ws pc L S := by
  refine cg_a cx pc' hd ?_ hp k
  unfold pm_kc at ha
  unfold pm_alu
  split at ha <;> simp only [Option.some.injEq, Prod.mk.injEq, reduceCtorEq] at ha
  · obtain ⟨rfl, rfl⟩ := ha; rfl
  · obtain ⟨rfl, rfl⟩ := ha; rfl
  · obtain ⟨rfl, rfl⟩ := ha; rfl
theorem cg_l (cx : cg_Cx sd I p R s m args meth c D cA A o cc N) (pc' : Nat) {kd j : Nat} {v : Value} (hd : decode cc pc = .ok (i, n)) (ha : pm_ld i = some (kd, j, n)) (hv : L[j]? = some v) (hk : pm_kd v = kd) (hp : pc + n = pc') (k : cg_Go p l e R s m args below meth c Z D A N kc ks ws pc' L (v :: S)) : cg_Go p l e R s m args below meth c Z D A N kc ks ws pc L S := by
  subst hp
  intro hN H locs ls hP hD hS hl
  have h := k hN H locs ls hP hD hS hl
  rw [← cg_map (v :: S)] at h
  rw [← cg_map S]
  exact pm_ld_W cx.1 cx.2.1 hd ha hl hv hk h
theorem cg_s (cx : cg_Cx sd I p R s m args meth c D cA A o cc N) (pc' : Nat) {kd j : Nat} {v : Value} {L' : List Value} (hd : decode cc pc = .ok (i, n)) (ha : pm_sr i = some (kd, j, n)) (hk : pm_kd v = kd) (hj : j + kd % 2 < L.length) (hL : pm_sto kd L j v = L') (hp : pc + n = pc') (k : cg_Go p l e R s m args below meth c Z D A N kc ks ws pc' L' S) : cg_Go p l e R s m args below meth c Z D A N kc ks ws pc L (v :: S) := by
  subst hp; subst hL
  intro hN H locs ls hP hD hS hl
  rw [← cg_map (v :: S)]
  refine pm_sr_W cx.1 cx.2.1 hd ha hl hk hj (fun ls' hl' => ?_)
  rw [cg_map]
  exact k (by rw [pm_sto_len]; exact hN) H locs ls' hP hD hS hl'
/-- a cell in the world may stand elsewhere: the same cells -/
theorem cg_oi (cx : cg_Cx sd I p R s m args meth c D cA A o cc N) (pc' : Nat) {a idx : Nat} (hl1 : Cond.methodLink (pm_on o) idx Lib.objectInit ∈ pm_tb) (hl2 : Cond.instanceMethod Lib.objectInit ∈ pm_tb) (hl3 : Cond.code Lib.objectInit ⟨#[0xb1]⟩ 1 none ∈ pm_tb) (hd : decode cc pc = .ok (.invokespecial idx, 3)) (h8 : (S.map fun v => v.category).sum ≤ 8) (hR : 1 ≤ R.frames ∧ 20 ≤ R.locals) (hp : pc + 3 = pc') (k : cg_Go p l e R s m args below meth c Z D A N kc ks ws pc' L S) : cg_Go p l e R s m args below meth c Z D A N kc ks ws pc L (.ref a :: S) := by
  subst hp
  obtain ⟨c1, c2, c3, c4, c5, c6, c7, c8⟩ := cx
  intro hN H locs ls hP hD hS hl
  exact W.objInit c1 c2 c4 (c5 _ hl1) (c5 _ hl2) (c5 _ hl3) rfl (by show ls.size = _; rw [hl.1, hN, c3]) rfl hd hR.1 (by show 2 * 0 + _ + 12 ≤ _; omega) (k hN H locs ls hP hD hS hl)
/-- a new array of zeros; t: the kind of its elements -/
def cg_z (t M : Nat) : vp_A := (M, if t = 3 then .inr (.inl (fun _ => 0)) else .inl (fun _ => 0))
def cg_at (t : Nat) : ArrayType := match t with
  | 0 => .int
  | 1 => .char
  | 2 => .boolean
  | _ => .long
theorem cg_na (cx : cg_Cx sd I p R s m args meth c D cA A o cc N) (pc' t M : Nat) {v : Int32} (ht : t < 4) (hw : Cond.arrayClass (pm_ty t) ∈ pm_tb) (hv : ¬ v < 0) (hM : v.toNatClampNeg = M) (hM2 : M ≤ 60000000) (hd : decode cc pc = .ok (.newarray (cg_at t), 2)) (hr : kc + 1 ≤ R.cells ∧ ks + M ≤ R.slots) (hp : pc + 2 = pc') (k : ∀ q : Nat, cg_Go p l e R s m args below meth c Z D A N (kc + 1) (ks + M) (ws ++ [(q, .inl (cA t, cg_z t M))]) pc' L (.ref q :: S)) : cg_Go p l e R s m args below meth c Z D A N kc ks ws pc L (.int v :: S) := by
  subst hp
  obtain ⟨c1, c2, c3, c4, c5, c6, c7, c8⟩ := cx
  intro hN H locs ls hP hD hS hl
  have hty : newarray.typeOf (cg_at t) = pm_ty t := by
    match t, ht with
    | 0, _ => rfl
    | 1, _ => rfl
    | 2, _ => rfl
    | 3, _ => rfl
  refine va_newa c1 c2 (by rw [hty]; exact c5 _ hw) hty c6 hP hD hS c7 (a0 := cg_z t M) (fun cB => ?_) hv hM ?_ hr.1 hr.2 hd (fun q cB H1 hK1 hP1 hD1 hS1 => ?_)
  · match t, ht with
    | 0, _ => rfl
    | 1, _ => rfl
    | 2, _ => rfl
    | 3, _ => rfl
  · have : componentBytes (pm_ty t) ≤ 8 := by
      match t, ht with
      | 0, _ => decide
      | 1, _ => decide
      | 2, _ => decide
      | 3, _ => decide
    calc M * componentBytes (pm_ty t) ≤ M * 8 := Nat.mul_le_mul_left _ this
      _ ≤ 536870912 := by omega
  · have e1 : va_RA s cB (pm_ty t) := (hK1.2 4 (cB, pm_ty t) rfl).2
    have e2 : va_RA s (cA t) (pm_ty t) := (c6.2 t (cA t, pm_ty t) (pm_tys_at cA ht)).2
    have e3 : cB = cA t := by
      match t, ht, e1, e2 with
      | 0, _, e1, e2 => exact Option.some.inj (e1.symm.trans e2)
      | 1, _, e1, e2 => exact Option.some.inj (e1.symm.trans e2)
      | 2, _, e1, e2 => exact Option.some.inj (e1.symm.trans e2)
      | 3, _, e1, e2 => exact Option.some.inj (e1.symm.trans e2)
    subst e3
    exact k q hN H1 locs ls hP1 hD1 hS1 hl
/-- a field is written, final or not -/
theorem cg_pf (cx : cg_Cx sd True p R s m args meth c D cA A o cc N) (pc' q0 : Nat) {idx ci j a : Nat} {fs : List Value} {v : Value} {C : String} {T : u_T} {NN : Nat} {ws' : va_W} (hf : pm_fd o idx = some (ci, j)) (hcl : pm_cl[ci]? = some (C, T, NN)) (he : ws[q0]? = some (a, .inr (ci, fs))) (hdc : (T j).1 = pm_on o) (hn : narrow (pm_ft ci j) v = v) (hfit : fits (pm_ft ci j) v = true) (hj : j < fs.length) (hw : ws.set q0 (a, .inr (ci, fs.set j v)) = ws') (hd : decode cc pc = .ok (.putfield idx, 3)) (hp : pc + 3 = pc') (k : cg_Go p l e R s m args below meth c Z D A N kc ks ws' pc' L S) : cg_Go p l e R s m args below meth c Z D A N kc ks ws pc L (v :: .ref a :: S) := by
  subst hp; subst hw
  obtain ⟨c1, c2, c3, c4, c5, c6, c7, c8⟩ := cx
  intro hN H locs ls hP hD hS hl
  obtain ⟨C', T', NN', q1, q2, q3⟩ := pm_fd_ok hf
  rw [hcl] at q1
  cases q1
  obtain ⟨k1, k2, k3, k4⟩ := pm_cl_ok hcl
  cases hb : (T j).2.2.2 with
  | true => exact va_putF c1 c2 c5 k1 (pm_ft ci) k2 k3 c4 c6 hP hD hS q0 he hcl j q2 (c5 _ q3) (fun x q => q) hb (c8.1 trivial) hdc (k2 j q2) hn hfit hj hd (fun H1 locs1 e1 e2 e3 => k hN H1 locs1 ls e1 e2 e3 hl)
  | false => exact va_put c1 c2 c5 k1 (pm_ft ci) k2 k3 c4 c6 hP hD hS q0 he hcl j q2 (c5 _ q3) (fun x q => q) hb (k2 j q2) hn hfit hj hd (fun H1 locs1 e1 e2 e3 => k hN H1 locs1 ls e1 e2 e3 hl)
/-- a new object, its fields as they are born -/
theorem cg_nw (cx : cg_Cx sd I p R s m args meth c D cA A o cc N) (pc' : Nat) {idx ci : Nat} {fs : List Value} {C : String} {T : u_T} {NN : Nat} (h1 : Cond.classLink (pm_on o) idx C ∈ pm_tb) (h2 : Cond.instantiable C NN ∈ pm_tb) (h3 : Cond.initialized C ∈ pm_tb) (hcl : pm_cl[ci]? = some (C, T, NN)) (hfs : ∀ j, j < NN → defaultValue (pm_ft ci j) = vp_V fs j) (hd : decode cc pc = .ok (.new idx, 3)) (hr : kc + 1 ≤ R.cells ∧ ks + NN ≤ R.slots) (hp : pc + 3 = pc') (k : ∀ q : Nat, cg_Go p l e R s m args below meth c Z D A N (kc + 1) (ks + NN) (ws ++ [(q, .inr (ci, fs))]) pc' L (.ref q :: S)) : cg_Go p l e R s m args below meth c Z D A N kc ks ws pc L S := by
  subst hp
  obtain ⟨c1, c2, c3, c4, c5, c6, c7, c8⟩ := cx
  obtain ⟨k1, k2, k3, k4⟩ := pm_cl_ok hcl
  intro hN H locs ls hP hD hS hl
  exact va_new c1 c2 c5 k1 (pm_ft ci) k2 c4 (c5 _ h1) (c5 _ h2) (c5 _ h3) c6 hP hD hS c7 hcl hfs hr.1 hr.2 hd (fun q H1 hP1 hD1 hS1 => k q hN H1 locs ls hP1 hD1 hS1 hl)
/-- the same world in another order -/
theorem cg_perm (is : List Nat) {ws' : va_W} (hn : va_nd is = true) (h1 : is.map (fun i => ws[i]?) = ws'.map some) (k : cg_Go p l e R s m args below meth c Z D A N kc ks ws' pc L S) : cg_Go p l e R s m args below meth c Z D A N kc ks ws pc L S := by
  intro hN H locs ls hP hD hS hl
  refine k hN H locs ls (hP.sub is ?_) (hD.sub is hn h1) hS hl
  clear hP hD hl hS k hn
  induction is generalizing ws' with
  | nil => cases ws' with
    | nil => rfl
    | cons => simp at h1
  | cons a is ih => cases ws' with
    | nil => simp at h1
    | cons w ws' =>
      simp only [List.map_cons, List.cons.injEq] at h1
      simp only [List.filterMap_cons, h1.1]
      rw [ih h1.2]
end CG
