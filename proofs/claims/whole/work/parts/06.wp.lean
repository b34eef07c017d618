/-! THE PURE MACHINE, one step, and the weakest precondition of a run. o: the class of the code, cc: the code, rt: the type of the answer -/
def pm_fp (σ : pm_S) (k j : Nat) (f : Nat) : Value := match f with
  | 0 => .int (σ.1 k j)
  | 1 => .long (σ.2.1 k j)
  | q + 2 => .ref q
theorem pm_fp_tau (ad : Nat → Nat) (σ : pm_S) (k j f : Nat) : pm_tau ad (pm_fp σ k j f) = pm_fv ad σ k j f := by
  unfold pm_fp pm_fv
  split <;> rfl
abbrev pm_C : Type := Nat → List Value → pm_S → (Option Value → pm_S → Prop) → Prop
abbrev pm_N : Type := Nat → List Value → List Value → pm_S → Prop

/-- elements' kinds: 0 int, 1 char, 2 boolean; their loads and stores -/
def pm_al (i : Instr) : Option Nat := match i with
  | .iaload => some 0
  | .caload => some 1
  | .baload => some 2
  | _ => none
def pm_aw (i : Instr) : Option Nat := match i with
  | .iastore => some 0
  | .castore => some 1
  | .bastore => some 2
  | _ => none
def pm_ty (k : Nat) : FieldType := match k with
  | 0 => .int
  | 1 => .char
  | 2 => .boolean
  | _ => .long
def pm_nr (k : Nat) (x : Int32) : Int32 := match k with
  | 0 => x
  | 1 => vp_nar .char x
  | _ => vp_nar .boolean x
/-- the groups of steps: each says what must hold so that the machine goes on -/
def pm_G1 (i : Instr) (n : Nat) (nx : pm_N) (pc : Nat) (L S : List Value) (σ : pm_S) : Prop :=
  (∃ S', pm_alu i S = some (n, S') ∧ nx (pc + n) L S' σ) ∨
  (∃ cd S', pm_dv i S = some (cd, S') ∧ n = 1 ∧ cd ∧ nx (pc + 1) L S' σ) ∨
  (∃ kd j v, pm_ld i = some (kd, j, n) ∧ L[j]? = some v ∧ pm_kd v = kd ∧ nx (pc + n) L (v :: S) σ) ∨
  (∃ kd j v S', pm_sr i = some (kd, j, n) ∧ S = v :: S' ∧ pm_kd v = kd ∧ j + kd % 2 < L.length ∧ nx (pc + n) (pm_sto kd L j v) S' σ) ∨
  (∃ j d x, i = .iinc j d ∧ n = 3 ∧ L[j]? = some (.int x) ∧ nx (pc + 3) (pm_st L j (.int (x + Int32.ofInt d))) S σ) ∨
  (∃ cd off S' tgt, pm_br i S = some (cd, off, S') ∧ n = 3 ∧ (pc : Int) + off = ((tgt : Nat) : Int) ∧ (cd → nx tgt L S' σ) ∧ (¬ cd → nx (pc + 3) L S' σ)) ∨
  (∃ off tgt, i = .goto off ∧ n = 3 ∧ (pc : Int) + off = ((tgt : Nat) : Int) ∧ nx tgt L S σ) ∨
  (∃ d lo hi offs x S' off tgt, i = .tableswitch d lo hi offs ∧ S = .int x :: S' ∧ ((x.toInt < lo ∨ hi < x.toInt) ∧ off = d ∨ ¬ x.toInt < lo ∧ ¬ hi < x.toInt ∧ offs[(x.toInt - lo).toNat]? = some off) ∧ (pc : Int) + off = ((tgt : Nat) : Int) ∧ nx tgt L S' σ) ∨
  (∃ d ps x S' off tgt, i = .lookupswitch d ps ∧ S = .int x :: S' ∧ (ps.toList.zip (ps.toList.drop 1)).all (fun (a, next) => a.1 < next.1) = true ∧ Op.lookupswitch.offset ps.toList d x.toInt = off ∧ (pc : Int) + off = ((tgt : Nat) : Int) ∧ nx tgt L S' σ)
def pm_G2 (Y : pm_Y) (o : Nat) (i : Instr) (n : Nat) (nx : pm_N) (pc : Nat) (L S : List Value) (σ : pm_S) : Prop :=
  (∃ idx k S' ci j fl f, i = .getfield idx ∧ n = 3 ∧ S = .ref k :: S' ∧ pm_fd o idx = some (ci, j) ∧ Y[k]? = some (.inr (ci, fl)) ∧ fl[j]? = some f ∧ nx (pc + 3) L (pm_fp σ k j f :: S') σ) ∨
  (∃ idx k x S' ci j fl, i = .putfield idx ∧ n = 3 ∧ S = .int x :: .ref k :: S' ∧ pm_fd o idx = some (ci, j) ∧ Y[k]? = some (.inr (ci, fl)) ∧ fl[j]? = some 0 ∧ (narrow (pm_ft ci j) (.int x) = .int x ∧ fits (pm_ft ci j) (.int x) = true) ∧ nx (pc + 3) L S' (pm_pi σ k j x)) ∨
  (∃ idx k x S' ci j fl, i = .putfield idx ∧ n = 3 ∧ S = .long x :: .ref k :: S' ∧ pm_fd o idx = some (ci, j) ∧ Y[k]? = some (.inr (ci, fl)) ∧ fl[j]? = some 1 ∧ pm_ft ci j = .long ∧ nx (pc + 3) L S' (pm_pl σ k j x)) ∨
  (∃ a k x S' N, pm_al i = some a ∧ n = 1 ∧ S = .int x :: .ref k :: S' ∧ Y[k]? = some (.inl (a, N)) ∧ vp_in x N ∧ nx (pc + 1) L (.int (σ.2.2 k x.toNatClampNeg) :: S') σ) ∨
  (∃ a k x v S' N, pm_aw i = some a ∧ n = 1 ∧ S = .int v :: .int x :: .ref k :: S' ∧ Y[k]? = some (.inl (a, N)) ∧ vp_in x N ∧ nx (pc + 1) L S' (pm_pr σ k (upd (σ.2.2 k) x.toNatClampNeg (pm_nr a v)))) ∨
  (∃ k x S' N, i = .laload ∧ n = 1 ∧ S = .int x :: .ref k :: S' ∧ Y[k]? = some (.inl (3, N)) ∧ vp_in x N ∧ nx (pc + 1) L (.long (σ.2.1 k x.toNatClampNeg) :: S') σ) ∨
  (∃ k x v S' N, i = .lastore ∧ n = 1 ∧ S = .long v :: .int x :: .ref k :: S' ∧ Y[k]? = some (.inl (3, N)) ∧ vp_in x N ∧ nx (pc + 1) L S' (pm_plr σ k (vp_updL (σ.2.1 k) x.toNatClampNeg v))) ∨
  (∃ a k S' N, i = .arraylength ∧ n = 1 ∧ S = .ref k :: S' ∧ Y[k]? = some (.inl (a, N)) ∧ nx (pc + 1) L (.int (Int32.ofNat N) :: S') σ)
def pm_G3 (o : Nat) (rt : Option FieldType) (i : Instr) (n : Nat) (nx : pm_N) (Q : Option Value → pm_S → Prop) (pc : Nat) (L S : List Value) (σ : pm_S) : Prop :=
  (∃ idx v, i = .ldc idx ∧ n = 2 ∧ pm_ct o idx = some v ∧ nx (pc + 2) L (.int v :: S) σ) ∨
  (∃ idx v, i = .ldc2_w idx ∧ n = 3 ∧ pm_ctl o idx = some v ∧ nx (pc + 3) L (.long v :: S) σ) ∨
  (∃ idx j, i = .getstatic idx ∧ n = 3 ∧ pm_sf o idx = some j ∧ nx (pc + 3) L (.ref (1000 + j) :: S) σ) ∨
  (∃ j x S' f, i = .iaload ∧ n = 1 ∧ S = .int x :: .ref (1000 + j) :: S' ∧ pm_sa[j]? = some f ∧ vp_in x f.length ∧ nx (pc + 1) L (.int (f.getD x.toNatClampNeg 0) :: S') σ) ∨
  (∃ j S' f, i = .arraylength ∧ n = 1 ∧ S = .ref (1000 + j) :: S' ∧ pm_sa[j]? = some f ∧ nx (pc + 1) L (.int (Int32.ofNat f.length) :: S') σ) ∨
  (∃ v, i = .ireturn ∧ n = 1 ∧ S = [.int v] ∧ (∃ ty, rt = some ty ∧ narrow ty (.int v) = .int v) ∧ Q (some (.int v)) σ) ∨
  (∃ v, i = .lreturn ∧ n = 1 ∧ S = [.long v] ∧ rt = some .long ∧ Q (some (.long v)) σ) ∨
  (∃ k, i = .areturn ∧ n = 1 ∧ S = [.ref k] ∧ (∃ ty, rt = some ty ∧ ((∃ n, ty = .object n) ∨ ∃ t, ty = .array t)) ∧ Q (some (.ref k)) σ) ∨
  (i = .return_ ∧ n = 1 ∧ S = [] ∧ rt = none ∧ Q none σ)
/-- the length and the bytes of a String constant -/
def pm_sln (j : Nat) : Nat := (pm_sby.getD j []).length
def pm_sbt (j k : Nat) : Int32 := (pm_sby.getD j []).getD k 0
/-- String constants: String j at place 1100 + j, its bytes at 1200 + j -/
def pm_G5 (C : pm_C) (o : Nat) (i : Instr) (n : Nat) (nx : pm_N) (pc : Nat) (L S : List Value) (σ : pm_S) : Prop :=
  (∃ idx j, i = .ldc idx ∧ n = 2 ∧ pm_stt o idx = some j ∧ nx (pc + 2) L (.ref (1100 + j) :: S) σ) ∨
  (∃ idx j S', i = .getfield idx ∧ n = 3 ∧ S = .ref (1100 + j) :: S' ∧ j < 9 ∧ pm_sgf o idx = some 0 ∧ nx (pc + 3) L (.int 0 :: S') σ) ∨
  (∃ idx j S', i = .getfield idx ∧ n = 3 ∧ S = .ref (1100 + j) :: S' ∧ j < 9 ∧ pm_sgf o idx = some 1 ∧ nx (pc + 3) L (.ref (1200 + j) :: S') σ) ∨
  (∃ j x S', i = .baload ∧ n = 1 ∧ S = .int x :: .ref (1200 + j) :: S' ∧ j < 9 ∧ vp_in x (pm_sln j) ∧ nx (pc + 1) L (.int (pm_sbt j x.toNatClampNeg) :: S') σ) ∨
  (∃ j S', i = .arraylength ∧ n = 1 ∧ S = .ref (1200 + j) :: S' ∧ j < 9 ∧ nx (pc + 1) L (.int (Int32.ofNat (pm_sln j)) :: S') σ) ∨
  (∃ idx, i = .getstatic idx ∧ n = 3 ∧ pm_sgf o idx = some 2 ∧ nx (pc + 3) L (.int 1 :: S) σ) ∨
  (∃ idx t' As j S' Q', i = .invokevirtual idx ∧ n = 3 ∧ pm_mt o idx = some (0, t') ∧ S = As.reverse ++ .ref (1100 + j) :: S' ∧ (∃ y b n' r' na, pm_m t' = some (y, b, n', r', 13, na, 14) ∧ As.length = na) ∧ j < 9 ∧ (S'.map fun v => v.category).sum ≤ 8 ∧ C t' (.ref (1100 + j) :: As) σ Q' ∧ ∀ r σ', Q' r σ' → nx (pc + 3) L (r.toList ++ S') σ')
def pm_G4 (Y : pm_Y) (C : pm_C) (o : Nat) (i : Instr) (n : Nat) (nx : pm_N) (pc : Nat) (L S : List Value) (σ : pm_S) : Prop :=
  (∃ idx t' As k S' ci fl Q', i = .invokevirtual idx ∧ n = 3 ∧ pm_mt o idx = some (0, t') ∧ S = As.reverse ++ .ref k :: S' ∧ (∃ y b n' r' na, pm_m t' = some (y, b, n', r', ci, na, ci + 1) ∧ As.length = na) ∧ Y[k]? = some (.inr (ci, fl)) ∧ (S'.map fun v => v.category).sum ≤ 8 ∧ C t' (.ref k :: As) σ Q' ∧ ∀ r σ', Q' r σ' → nx (pc + 3) L (r.toList ++ S') σ') ∨
  (∃ idx t' As S' Q', i = .invokestatic idx ∧ n = 3 ∧ pm_mt o idx = some (1, t') ∧ S = As.reverse ++ S' ∧ (∃ y b n' r' o' na, pm_m t' = some (y, b, n', r', o', na, 0) ∧ As.length = na) ∧ (S'.map fun v => v.category).sum ≤ 8 ∧ C t' As σ Q' ∧ ∀ r σ', Q' r σ' → nx (pc + 3) L (r.toList ++ S') σ') ∨
  (∃ idx x y S', i = .invokestatic idx ∧ n = 3 ∧ pm_mt o idx = some (2, 0) ∧ S = .int y :: .int x :: S' ∧ (S'.map fun v => v.category).sum ≤ 8 ∧ nx (pc + 3) L (.int (if y < x then y else x) :: S') σ) ∨
  (∃ idx x y S', i = .invokestatic idx ∧ n = 3 ∧ pm_mt o idx = some (3, 0) ∧ S = .int y :: .int x :: S' ∧ (S'.map fun v => v.category).sum ≤ 8 ∧ nx (pc + 3) L (.int (if x < y then y else x) :: S') σ) ∨
  (∃ idx x y S', i = .invokestatic idx ∧ n = 3 ∧ pm_mt o idx = some (5, 0) ∧ S = .long y :: .long x :: S' ∧ (S'.map fun v => v.category).sum ≤ 8 ∧ nx (pc + 3) L (.long (if y < x then y else x) :: S') σ) ∨
  (∃ idx w dp sp a b S' N M, i = .invokestatic idx ∧ n = 3 ∧ pm_mt o idx = some (4, 0) ∧ S = .int w :: .int dp :: .ref b :: .int sp :: .ref a :: S' ∧ (S'.map fun v => v.category).sum ≤ 8 ∧ Y[a]? = some (.inl (0, N)) ∧ Y[b]? = some (.inl (0, M)) ∧ ¬ sp < 0 ∧ ¬ dp < 0 ∧ ¬ w < 0 ∧ sp.toNatClampNeg + w.toNatClampNeg ≤ N ∧ dp.toNatClampNeg + w.toNatClampNeg ≤ M ∧ nx (pc + 3) L S' (pm_pr σ b (va_cpy (σ.2.2 a) (σ.2.2 b) sp.toNatClampNeg dp.toNatClampNeg w.toNatClampNeg))) ∨
  pm_G5 C o i n nx pc L S σ
def pm_T1 (Y : pm_Y) (C : pm_C) (o : Nat) (cc : ByteArray) (rt : Option FieldType) (nx : pm_N) (Q : Option Value → pm_S → Prop) (pc : Nat) (L S : List Value) (σ : pm_S) : Prop :=
  ∃ (i : Instr) (n : Nat), decode cc pc = .ok (i, n) ∧ (pm_G1 i n nx pc L S σ ∨ pm_G2 Y o i n nx pc L S σ ∨ pm_G3 o rt i n nx Q pc L S σ ∨ pm_G4 Y C o i n nx pc L S σ)
def pm_WP (Y : pm_Y) (C : pm_C) (o : Nat) (cc : ByteArray) (rt : Option FieldType) (Q : Option Value → pm_S → Prop) (pc : Nat) (L S : List Value) (σ : pm_S) : Prop :=
  ∀ P : pm_N, (∀ pc L S σ, pm_T1 Y C o cc rt P Q pc L S σ → P pc L S σ) → P pc L S σ
theorem pm_G1.mono {i : Instr} {n : Nat} {nx ny : pm_N} {pc : Nat} {L S : List Value} {σ : pm_S} (f : ∀ pc L S σ, nx pc L S σ → ny pc L S σ) (h : pm_G1 i n nx pc L S σ) : pm_G1 i n ny pc L S σ := by
  rcases h with ⟨S', h1, h2⟩ | ⟨cd, S', h1, h2, h3, h4⟩ | ⟨kd, j, v, h1, h2, h3, h4⟩ | ⟨kd, j, v, S', h1, h2, h3, h4, h5⟩ | ⟨j, d, x, h1, h2, h3, h4⟩ | ⟨cd, off, S', tgt, h1, h2, h3, h4, h5⟩ | ⟨off, tgt, h1, h2, h3, h4⟩ | ⟨d, lo, hi, offs, x, S', off, tgt, h1, h2, h3, h4, h5⟩ | ⟨d, ps, x, S', off, tgt, h1, h2, h3, h4, h5, h6⟩
  · exact Or.inl ⟨S', h1, f _ _ _ _ h2⟩
  · exact Or.inr (Or.inl ⟨cd, S', h1, h2, h3, f _ _ _ _ h4⟩)
  · exact Or.inr (Or.inr (Or.inl ⟨kd, j, v, h1, h2, h3, f _ _ _ _ h4⟩))
  · exact Or.inr (Or.inr (Or.inr (Or.inl ⟨kd, j, v, S', h1, h2, h3, h4, f _ _ _ _ h5⟩)))
  · exact Or.inr (Or.inr (Or.inr (Or.inr (Or.inl ⟨j, d, x, h1, h2, h3, f _ _ _ _ h4⟩))))
  · exact Or.inr (Or.inr (Or.inr (Or.inr (Or.inr (Or.inl ⟨cd, off, S', tgt, h1, h2, h3, fun q => f _ _ _ _ (h4 q), fun q => f _ _ _ _ (h5 q)⟩)))))
  · exact Or.inr (Or.inr (Or.inr (Or.inr (Or.inr (Or.inr (Or.inl ⟨off, tgt, h1, h2, h3, f _ _ _ _ h4⟩))))))
  · exact Or.inr (Or.inr (Or.inr (Or.inr (Or.inr (Or.inr (Or.inr (Or.inl ⟨d, lo, hi, offs, x, S', off, tgt, h1, h2, h3, h4, f _ _ _ _ h5⟩)))))))
  · exact Or.inr (Or.inr (Or.inr (Or.inr (Or.inr (Or.inr (Or.inr (Or.inr ⟨d, ps, x, S', off, tgt, h1, h2, h3, h4, h5, f _ _ _ _ h6⟩)))))))
theorem pm_G2.mono {Y : pm_Y} {o : Nat} {i : Instr} {n : Nat} {nx ny : pm_N} {pc : Nat} {L S : List Value} {σ : pm_S} (f : ∀ pc L S σ, nx pc L S σ → ny pc L S σ) (h : pm_G2 Y o i n nx pc L S σ) : pm_G2 Y o i n ny pc L S σ := by
  rcases h with ⟨idx, k, S', ci, j, fl, g, h1, h2, h3, h4, h5, h6, h7⟩ | ⟨idx, k, x, S', ci, j, fl, h1, h2, h3, h4, h5, h6, h7, h8⟩ | ⟨idx, k, x, S', ci, j, fl, h1, h2, h3, h4, h5, h6, h7, h8⟩ | ⟨a, k, x, S', N, h1, h2, h3, h4, h5, h6⟩ | ⟨a, k, x, v, S', N, h1, h2, h3, h4, h5, h6⟩ | ⟨k, x, S', N, h1, h2, h3, h4, h5, h6⟩ | ⟨k, x, v, S', N, h1, h2, h3, h4, h5, h6⟩ | ⟨a, k, S', N, h1, h2, h3, h4, h5⟩
  · exact Or.inl ⟨idx, k, S', ci, j, fl, g, h1, h2, h3, h4, h5, h6, f _ _ _ _ h7⟩
  · exact Or.inr (Or.inl ⟨idx, k, x, S', ci, j, fl, h1, h2, h3, h4, h5, h6, h7, f _ _ _ _ h8⟩)
  · exact Or.inr (Or.inr (Or.inl ⟨idx, k, x, S', ci, j, fl, h1, h2, h3, h4, h5, h6, h7, f _ _ _ _ h8⟩))
  · exact Or.inr (Or.inr (Or.inr (Or.inl ⟨a, k, x, S', N, h1, h2, h3, h4, h5, f _ _ _ _ h6⟩)))
  · exact Or.inr (Or.inr (Or.inr (Or.inr (Or.inl ⟨a, k, x, v, S', N, h1, h2, h3, h4, h5, f _ _ _ _ h6⟩))))
  · exact Or.inr (Or.inr (Or.inr (Or.inr (Or.inr (Or.inl ⟨k, x, S', N, h1, h2, h3, h4, h5, f _ _ _ _ h6⟩)))))
  · exact Or.inr (Or.inr (Or.inr (Or.inr (Or.inr (Or.inr (Or.inl ⟨k, x, v, S', N, h1, h2, h3, h4, h5, f _ _ _ _ h6⟩))))))
  · exact Or.inr (Or.inr (Or.inr (Or.inr (Or.inr (Or.inr (Or.inr ⟨a, k, S', N, h1, h2, h3, h4, f _ _ _ _ h5⟩))))))
theorem pm_G3.mono {o : Nat} {rt : Option FieldType} {i : Instr} {n : Nat} {nx ny : pm_N} {Q Q' : Option Value → pm_S → Prop} {pc : Nat} {L S : List Value} {σ : pm_S} (f : ∀ pc L S σ, nx pc L S σ → ny pc L S σ) (g : ∀ r σ, Q r σ → Q' r σ) (h : pm_G3 o rt i n nx Q pc L S σ) : pm_G3 o rt i n ny Q' pc L S σ := by
  rcases h with ⟨idx, v, h1, h2, h3, h4⟩ | ⟨idx, v, h1, h2, h3, h4⟩ | ⟨idx, j, h1, h2, h3, h4⟩ | ⟨j, x, S', ff, h1, h2, h3, h4, h5, h6⟩ | ⟨j, S', ff, h1, h2, h3, h4, h5⟩ | ⟨v, h1, h2, h3, h4, h5⟩ | ⟨v, h1, h2, h3, h4, h5⟩ | ⟨k, h1, h2, h3, h4, h5⟩ | ⟨h1, h2, h3, h4, h5⟩
  · exact Or.inl ⟨idx, v, h1, h2, h3, f _ _ _ _ h4⟩
  · exact Or.inr (Or.inl ⟨idx, v, h1, h2, h3, f _ _ _ _ h4⟩)
  · exact Or.inr (Or.inr (Or.inl ⟨idx, j, h1, h2, h3, f _ _ _ _ h4⟩))
  · exact Or.inr (Or.inr (Or.inr (Or.inl ⟨j, x, S', ff, h1, h2, h3, h4, h5, f _ _ _ _ h6⟩)))
  · exact Or.inr (Or.inr (Or.inr (Or.inr (Or.inl ⟨j, S', ff, h1, h2, h3, h4, f _ _ _ _ h5⟩))))
  · exact Or.inr (Or.inr (Or.inr (Or.inr (Or.inr (Or.inl ⟨v, h1, h2, h3, h4, g _ _ h5⟩)))))
  · exact Or.inr (Or.inr (Or.inr (Or.inr (Or.inr (Or.inr (Or.inl ⟨v, h1, h2, h3, h4, g _ _ h5⟩))))))
  · exact Or.inr (Or.inr (Or.inr (Or.inr (Or.inr (Or.inr (Or.inr (Or.inl ⟨k, h1, h2, h3, h4, g _ _ h5⟩)))))))
  · exact Or.inr (Or.inr (Or.inr (Or.inr (Or.inr (Or.inr (Or.inr (Or.inr ⟨h1, h2, h3, h4, g _ _ h5⟩)))))))
theorem pm_G5.mono {C C' : pm_C} {o : Nat} {i : Instr} {n : Nat} {nx ny : pm_N} {pc : Nat} {L S : List Value} {σ : pm_S} (hC : ∀ t As σ Q, C t As σ Q → C' t As σ Q) (f : ∀ pc L S σ, nx pc L S σ → ny pc L S σ) (h : pm_G5 C o i n nx pc L S σ) : pm_G5 C' o i n ny pc L S σ := by
  rcases h with ⟨idx, j, h1, h2, h3, h4⟩ | ⟨idx, j, S', h1, h2, h3, h4, h5, h6⟩ | ⟨idx, j, S', h1, h2, h3, h4, h5, h6⟩ | ⟨j, x, S', h1, h2, h3, h4, h5, h6⟩ | ⟨j, S', h1, h2, h3, h4, h5⟩ | ⟨idx, h1, h2, h3, h4⟩ | ⟨idx, t', As, j, S', Q', h1, h2, h3, h4, h5, h6, h7, h8, h9⟩
  · exact Or.inl ⟨idx, j, h1, h2, h3, f _ _ _ _ h4⟩
  · exact Or.inr (Or.inl ⟨idx, j, S', h1, h2, h3, h4, h5, f _ _ _ _ h6⟩)
  · exact Or.inr (Or.inr (Or.inl ⟨idx, j, S', h1, h2, h3, h4, h5, f _ _ _ _ h6⟩))
  · exact Or.inr (Or.inr (Or.inr (Or.inl ⟨j, x, S', h1, h2, h3, h4, h5, f _ _ _ _ h6⟩)))
  · exact Or.inr (Or.inr (Or.inr (Or.inr (Or.inl ⟨j, S', h1, h2, h3, h4, f _ _ _ _ h5⟩))))
  · exact Or.inr (Or.inr (Or.inr (Or.inr (Or.inr (Or.inl ⟨idx, h1, h2, h3, f _ _ _ _ h4⟩)))))
  · exact Or.inr (Or.inr (Or.inr (Or.inr (Or.inr (Or.inr ⟨idx, t', As, j, S', Q', h1, h2, h3, h4, h5, h6, h7, hC _ _ _ _ h8, fun r s hr => f _ _ _ _ (h9 r s hr)⟩)))))
theorem pm_G4.mono {Y : pm_Y} {C C' : pm_C} {o : Nat} {i : Instr} {n : Nat} {nx ny : pm_N} {pc : Nat} {L S : List Value} {σ : pm_S} (hC : ∀ t As σ Q, C t As σ Q → C' t As σ Q) (f : ∀ pc L S σ, nx pc L S σ → ny pc L S σ) (h : pm_G4 Y C o i n nx pc L S σ) : pm_G4 Y C' o i n ny pc L S σ := by
  rcases h with ⟨idx, t', As, k, S', ci, fl, Q', h1, h2, h3, h4, h5, h6, h8, h9, h10⟩ | ⟨idx, t', As, S', Q', h1, h2, h3, h4, h5, h6, h7, h8⟩ | ⟨idx, x, y, S', h1, h2, h3, h4, h5, h6⟩ | ⟨idx, x, y, S', h1, h2, h3, h4, h5, h6⟩ | ⟨idx, x, y, S', h1, h2, h3, h4, h5, h6⟩ | ⟨idx, w, dp, sp, a, b, S', N, M, h1, h2, h3, h4, h5, h6, h7, h8, h9, h10, h11, h12, h13⟩ | h
  · exact Or.inl ⟨idx, t', As, k, S', ci, fl, Q', h1, h2, h3, h4, h5, h6, h8, hC _ _ _ _ h9, fun r s hr => f _ _ _ _ (h10 r s hr)⟩
  · exact Or.inr (Or.inl ⟨idx, t', As, S', Q', h1, h2, h3, h4, h5, h6, hC _ _ _ _ h7, fun r s hr => f _ _ _ _ (h8 r s hr)⟩)
  · exact Or.inr (Or.inr (Or.inl ⟨idx, x, y, S', h1, h2, h3, h4, h5, f _ _ _ _ h6⟩))
  · exact Or.inr (Or.inr (Or.inr (Or.inl ⟨idx, x, y, S', h1, h2, h3, h4, h5, f _ _ _ _ h6⟩)))
  · exact Or.inr (Or.inr (Or.inr (Or.inr (Or.inl ⟨idx, x, y, S', h1, h2, h3, h4, h5, f _ _ _ _ h6⟩))))
  · exact Or.inr (Or.inr (Or.inr (Or.inr (Or.inr (Or.inl ⟨idx, w, dp, sp, a, b, S', N, M, h1, h2, h3, h4, h5, h6, h7, h8, h9, h10, h11, h12, f _ _ _ _ h13⟩)))))
  · exact Or.inr (Or.inr (Or.inr (Or.inr (Or.inr (Or.inr (h.mono hC f))))))
theorem pm_T1.mono {Y : pm_Y} {C C' : pm_C} {o : Nat} {cc : ByteArray} {rt : Option FieldType} {nx ny : pm_N} {Q Q' : Option Value → pm_S → Prop} {pc : Nat} {L S : List Value} {σ : pm_S} (hC : ∀ t As σ Q, C t As σ Q → C' t As σ Q) (f : ∀ pc L S σ, nx pc L S σ → ny pc L S σ) (g : ∀ r σ, Q r σ → Q' r σ) (h : pm_T1 Y C o cc rt nx Q pc L S σ) : pm_T1 Y C' o cc rt ny Q' pc L S σ := by
  obtain ⟨i, n, h1, h2⟩ := h
  refine ⟨i, n, h1, ?_⟩
  rcases h2 with h | h | h | h
  · exact Or.inl (h.mono f)
  · exact Or.inr (Or.inl (h.mono f))
  · exact Or.inr (Or.inr (Or.inl (h.mono f g)))
  · exact Or.inr (Or.inr (Or.inr (h.mono hC f)))
theorem pm_WP.mk {Y : pm_Y} {C : pm_C} {o : Nat} {cc : ByteArray} {rt : Option FieldType} {Q : Option Value → pm_S → Prop} {pc : Nat} {L S : List Value} {σ : pm_S} (h : pm_T1 Y C o cc rt (pm_WP Y C o cc rt Q) Q pc L S σ) : pm_WP Y C o cc rt Q pc L S σ :=
  fun P hP => hP _ _ _ _ (h.mono (fun _ _ _ _ q => q) (fun _ _ _ _ hw => hw P hP) (fun _ _ q => q))
theorem pm_WP.mono {Y : pm_Y} {C C' : pm_C} {o : Nat} {cc : ByteArray} {rt : Option FieldType} {Q Q' : Option Value → pm_S → Prop} {pc : Nat} {L S : List Value} {σ : pm_S} (hC : ∀ t As σ Q, C t As σ Q → C' t As σ Q) (g : ∀ r σ, Q r σ → Q' r σ) (h : pm_WP Y C o cc rt Q pc L S σ) : pm_WP Y C' o cc rt Q' pc L S σ :=
  h (pm_WP Y C' o cc rt Q') (fun _ _ _ _ q => pm_WP.mk (q.mono hC (fun _ _ _ _ z => z) g))
/-- the locals at a method's entry -/
def pm_ar : List Value → List Value
  | [] => []
  | v :: vs => bif pm_c2 v then v :: pm_jk :: pm_ar vs else v :: pm_ar vs
def pm_en (n : Nat) (As : List Value) : List Value := pm_ar As ++ List.replicate (n - (pm_ar As).length) pm_jk
/-- a call, d frames deep at most -/
def pm_call (Y : pm_Y) : Nat → pm_C
  | 0 => fun _ _ _ _ => False
  | d + 1 => fun t As σ Q => ∃ y cc n rt o na oc, pm_m t = some (y, cc, n, rt, o, na, oc) ∧ (pm_ar As).length ≤ n ∧ n ≤ 20 ∧ pm_WP Y (pm_call Y d) o cc rt Q 0 (pm_en n As) [] σ
theorem pm_call_mono (Y : pm_Y) : ∀ (d : Nat) (t : Nat) (As : List Value) (σ : pm_S) (Q Q' : Option Value → pm_S → Prop), (∀ r σ, Q r σ → Q' r σ) → pm_call Y d t As σ Q → pm_call Y d t As σ Q'
  | 0, _, _, _, _, _, _, h => h
  | d + 1, _, _, _, _, _, g, ⟨y, cc, n, rt, o, na, oc, h1, h2, h3, h4⟩ => ⟨y, cc, n, rt, o, na, oc, h1, h2, h3, h4.mono (fun _ _ _ _ q => q) g⟩
theorem pm_call_succ (Y : pm_Y) : ∀ (d : Nat) (t : Nat) (As : List Value) (σ : pm_S) (Q : Option Value → pm_S → Prop), pm_call Y d t As σ Q → pm_call Y (d + 1) t As σ Q
  | 0, _, _, _, _, h => h.elim
  | d + 1, _, _, _, _, ⟨y, cc, n, rt, o, na, oc, h1, h2, h3, h4⟩ => ⟨y, cc, n, rt, o, na, oc, h1, h2, h3, h4.mono (pm_call_succ Y d) (fun _ _ q => q)⟩
theorem pm_call_le {Y : pm_Y} {d e : Nat} (h : d ≤ e) {t : Nat} {As : List Value} {σ : pm_S} {Q : Option Value → pm_S → Prop} (hc : pm_call Y d t As σ Q) : pm_call Y e t As σ Q := by
  induction h with
  | refl => exact hc
  | step _ ih => exact pm_call_succ _ _ _ _ _ _ ih
