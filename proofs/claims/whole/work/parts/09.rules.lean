/-! RULES: the weakest precondition, an instruction a rule -/
section PMR
variable {Y : pm_Y} {C : pm_C} {o : Nat} {cc : ByteArray} {rt : Option FieldType} {Q : Option Value → pm_S → Prop} {pc n : Nat} {L S S' : List Value} {σ : pm_S} {i : Instr}
theorem wq_a (pc' : Nat) (hd : decode cc pc = .ok (i, n)) (ha : pm_alu i S = some (n, S')) (hp : pc + n = pc') (k : pm_WP Y C o cc rt Q pc' L S' σ) : pm_WP Y C o cc rt Q pc L S σ := by
  subst hp
  exact pm_WP.mk ⟨i, n, hd, Or.inl (Or.inl ⟨S', ha, k⟩)⟩
/-- a number as it is -/
def pm_kc (i : Instr) : Option (Nat × Int32) := match i with
  | .iconst c => some (1, Int32.ofInt c)
  | .bipush c => some (2, (Int8.ofInt c).toInt32)
  | .sipush c => some (3, (Int16.ofInt c).toInt32)
  | _ => none
theorem wq_k (pc' : Nat) (v : Int32) (hd : decode cc pc = .ok (i, n)) (ha : pm_kc i = some (n, v)) (hp : pc + n = pc') (k : pm_WP Y C o cc rt Q pc' L (.int v :: S) σ) : pm_WP Y C o cc rt Q pc L S σ := by
  refine wq_a pc' hd ?_ hp k
  unfold pm_kc at ha
  unfold pm_alu
  split at ha <;> simp only [Option.some.injEq, Prod.mk.injEq, reduceCtorEq] at ha
  · obtain ⟨rfl, rfl⟩ := ha; rfl
  · obtain ⟨rfl, rfl⟩ := ha; rfl
  · obtain ⟨rfl, rfl⟩ := ha; rfl
theorem wq_dv (pc' : Nat) {cd : Prop} (hd : decode cc pc = .ok (i, 1)) (ha : pm_dv i S = some (cd, S')) (hp : pc + 1 = pc') (hc : cd) (k : pm_WP Y C o cc rt Q pc' L S' σ) : pm_WP Y C o cc rt Q pc L S σ := by
  subst hp
  exact pm_WP.mk ⟨i, 1, hd, Or.inl (Or.inr (Or.inl ⟨cd, S', ha, rfl, hc, k⟩))⟩
theorem wq_l (pc' : Nat) {kd j : Nat} {v : Value} (hd : decode cc pc = .ok (i, n)) (ha : pm_ld i = some (kd, j, n)) (hv : L[j]? = some v) (hk : pm_kd v = kd) (hp : pc + n = pc') (k : pm_WP Y C o cc rt Q pc' L (v :: S) σ) : pm_WP Y C o cc rt Q pc L S σ := by
  subst hp
  exact pm_WP.mk ⟨i, n, hd, Or.inl (Or.inr (Or.inr (Or.inl ⟨kd, j, v, ha, hv, hk, k⟩)))⟩
theorem wq_s (pc' : Nat) {kd j : Nat} {v : Value} {L' : List Value} (hd : decode cc pc = .ok (i, n)) (ha : pm_sr i = some (kd, j, n)) (hk : pm_kd v = kd) (hj : j + kd % 2 < L.length) (hL : pm_sto kd L j v = L') (hp : pc + n = pc') (k : pm_WP Y C o cc rt Q pc' L' S σ) : pm_WP Y C o cc rt Q pc L (v :: S) σ := by
  subst hp; subst hL
  exact pm_WP.mk ⟨i, n, hd, Or.inl (Or.inr (Or.inr (Or.inr (Or.inl ⟨kd, j, v, S, ha, rfl, hk, hj, k⟩))))⟩
theorem wq_i (pc' : Nat) {j : Nat} {d : Int} {x : Int32} {L' : List Value} (hd : decode cc pc = .ok (.iinc j d, 3)) (hv : L[j]? = some (.int x)) (hL : pm_st L j (.int (x + Int32.ofInt d)) = L') (hp : pc + 3 = pc') (k : pm_WP Y C o cc rt Q pc' L' S σ) : pm_WP Y C o cc rt Q pc L S σ := by
  subst hp; subst hL
  exact pm_WP.mk ⟨_, 3, hd, Or.inl (Or.inr (Or.inr (Or.inr (Or.inr (Or.inl ⟨j, d, x, rfl, rfl, hv, k⟩)))))⟩
theorem wq_b (pt pf : Nat) {cd : Prop} {off : Int} (hd : decode cc pc = .ok (i, 3)) (ha : pm_br i S = some (cd, off, S')) (ht : (pc : Int) + off = ((pt : Nat) : Int)) (hp : pc + 3 = pf) (kt : cd → pm_WP Y C o cc rt Q pt L S' σ) (kf : ¬ cd → pm_WP Y C o cc rt Q pf L S' σ) : pm_WP Y C o cc rt Q pc L S σ := by
  subst hp
  exact pm_WP.mk ⟨i, 3, hd, Or.inl (Or.inr (Or.inr (Or.inr (Or.inr (Or.inr (Or.inl ⟨cd, off, S', pt, ha, rfl, ht, kt, kf⟩))))))⟩
theorem wq_g (pt : Nat) {off : Int} (hd : decode cc pc = .ok (.goto off, 3)) (ht : (pc : Int) + off = ((pt : Nat) : Int)) (k : pm_WP Y C o cc rt Q pt L S σ) : pm_WP Y C o cc rt Q pc L S σ :=
  pm_WP.mk ⟨_, 3, hd, Or.inl (Or.inr (Or.inr (Or.inr (Or.inr (Or.inr (Or.inr (Or.inl ⟨off, pt, rfl, rfl, ht, k⟩)))))))⟩
theorem wq_ts (pt : Nat) {d lo hi : Int} {offs : Array Int} {x : Int32} {off : Int} (hd : decode cc pc = .ok (.tableswitch d lo hi offs, n)) (ho : (x.toInt < lo ∨ hi < x.toInt) ∧ off = d ∨ ¬ x.toInt < lo ∧ ¬ hi < x.toInt ∧ offs[(x.toInt - lo).toNat]? = some off) (ht : (pc : Int) + off = ((pt : Nat) : Int)) (k : pm_WP Y C o cc rt Q pt L S σ) : pm_WP Y C o cc rt Q pc L (.int x :: S) σ :=
  pm_WP.mk ⟨_, n, hd, Or.inl (Or.inr (Or.inr (Or.inr (Or.inr (Or.inr (Or.inr (Or.inr (Or.inl ⟨d, lo, hi, offs, x, S, off, pt, rfl, rfl, ho, ht, k⟩))))))))⟩
theorem wq_ls (pt : Nat) {d : Int} {ps : Array (Int × Int)} {x : Int32} {off : Int} (hd : decode cc pc = .ok (.lookupswitch d ps, n)) (hs : (ps.toList.zip (ps.toList.drop 1)).all (fun (a, next) => a.1 < next.1) = true) (ho : Op.lookupswitch.offset ps.toList d x.toInt = off) (ht : (pc : Int) + off = ((pt : Nat) : Int)) (k : pm_WP Y C o cc rt Q pt L S σ) : pm_WP Y C o cc rt Q pc L (.int x :: S) σ :=
  pm_WP.mk ⟨_, n, hd, Or.inl (Or.inr (Or.inr (Or.inr (Or.inr (Or.inr (Or.inr (Or.inr (Or.inr ⟨d, ps, x, S, off, pt, rfl, rfl, hs, ho, ht, k⟩))))))))⟩
theorem wq_gf (pc' : Nat) {idx k ci j f : Nat} {fl : List Nat} {v : Value} (hd : decode cc pc = .ok (.getfield idx, 3)) (hf : pm_fd o idx = some (ci, j)) (hY : Y[k]? = some (.inr (ci, fl))) (hj : fl[j]? = some f) (hv : pm_fp σ k j f = v) (hp : pc + 3 = pc') (kk : pm_WP Y C o cc rt Q pc' L (v :: S) σ) : pm_WP Y C o cc rt Q pc L (.ref k :: S) σ := by
  subst hp; subst hv
  exact pm_WP.mk ⟨_, 3, hd, Or.inr (Or.inl (Or.inl ⟨idx, k, S, ci, j, fl, f, rfl, rfl, rfl, hf, hY, hj, kk⟩))⟩
theorem wq_gi (pc' : Nat) {idx k ci j : Nat} {fl : List Nat} (hd : decode cc pc = .ok (.getfield idx, 3)) (hf : pm_fd o idx = some (ci, j)) (hY : Y[k]? = some (.inr (ci, fl))) (hj : fl[j]? = some 0) (hp : pc + 3 = pc') (kk : pm_WP Y C o cc rt Q pc' L (.int (σ.1 k j) :: S) σ) : pm_WP Y C o cc rt Q pc L (.ref k :: S) σ := wq_gf pc' hd hf hY hj rfl hp kk
theorem wq_gl (pc' : Nat) {idx k ci j : Nat} {fl : List Nat} (hd : decode cc pc = .ok (.getfield idx, 3)) (hf : pm_fd o idx = some (ci, j)) (hY : Y[k]? = some (.inr (ci, fl))) (hj : fl[j]? = some 1) (hp : pc + 3 = pc') (kk : pm_WP Y C o cc rt Q pc' L (.long (σ.2.1 k j) :: S) σ) : pm_WP Y C o cc rt Q pc L (.ref k :: S) σ := wq_gf pc' hd hf hY hj rfl hp kk
theorem wq_gr (pc' : Nat) {idx k ci j q : Nat} {fl : List Nat} (hd : decode cc pc = .ok (.getfield idx, 3)) (hf : pm_fd o idx = some (ci, j)) (hY : Y[k]? = some (.inr (ci, fl))) (hj : fl[j]? = some (q + 2)) (hp : pc + 3 = pc') (kk : pm_WP Y C o cc rt Q pc' L (.ref q :: S) σ) : pm_WP Y C o cc rt Q pc L (.ref k :: S) σ := wq_gf pc' hd hf hY hj rfl hp kk
theorem wq_pf (pc' : Nat) {idx k ci j : Nat} {fl : List Nat} {x : Int32} (hd : decode cc pc = .ok (.putfield idx, 3)) (hf : pm_fd o idx = some (ci, j)) (hY : Y[k]? = some (.inr (ci, fl))) (hj : fl[j]? = some 0) (hn : narrow (pm_ft ci j) (.int x) = .int x ∧ fits (pm_ft ci j) (.int x) = true) (hp : pc + 3 = pc') (kk : pm_WP Y C o cc rt Q pc' L S (pm_pi σ k j x)) : pm_WP Y C o cc rt Q pc L (.int x :: .ref k :: S) σ := by
  subst hp
  exact pm_WP.mk ⟨_, 3, hd, Or.inr (Or.inl (Or.inr (Or.inl ⟨idx, k, x, S, ci, j, fl, rfl, rfl, rfl, hf, hY, hj, hn, kk⟩)))⟩
theorem wq_pl (pc' : Nat) {idx k ci j : Nat} {fl : List Nat} {x : Int64} (hd : decode cc pc = .ok (.putfield idx, 3)) (hf : pm_fd o idx = some (ci, j)) (hY : Y[k]? = some (.inr (ci, fl))) (hj : fl[j]? = some 1) (hn : pm_ft ci j = .long) (hp : pc + 3 = pc') (kk : pm_WP Y C o cc rt Q pc' L S (pm_pl σ k j x)) : pm_WP Y C o cc rt Q pc L (.long x :: .ref k :: S) σ := by
  subst hp
  exact pm_WP.mk ⟨_, 3, hd, Or.inr (Or.inl (Or.inr (Or.inr (Or.inl ⟨idx, k, x, S, ci, j, fl, rfl, rfl, rfl, hf, hY, hj, hn, kk⟩))))⟩
theorem wq_al (pc' : Nat) {a k N : Nat} {x : Int32} (hd : decode cc pc = .ok (i, 1)) (ha : pm_al i = some a) (hY : Y[k]? = some (.inl (a, N))) (hp : pc + 1 = pc') (hx : vp_in x N) (kk : pm_WP Y C o cc rt Q pc' L (.int (σ.2.2 k x.toNatClampNeg) :: S) σ) : pm_WP Y C o cc rt Q pc L (.int x :: .ref k :: S) σ := by
  subst hp
  exact pm_WP.mk ⟨i, 1, hd, Or.inr (Or.inl (Or.inr (Or.inr (Or.inr (Or.inl ⟨a, k, x, S, N, ha, rfl, rfl, hY, hx, kk⟩)))))⟩
theorem wq_as (pc' : Nat) {a k N : Nat} {x v : Int32} (hd : decode cc pc = .ok (i, 1)) (ha : pm_aw i = some a) (hY : Y[k]? = some (.inl (a, N))) (hp : pc + 1 = pc') (hx : vp_in x N) (kk : pm_WP Y C o cc rt Q pc' L S (pm_pr σ k (upd (σ.2.2 k) x.toNatClampNeg (pm_nr a v)))) : pm_WP Y C o cc rt Q pc L (.int v :: .int x :: .ref k :: S) σ := by
  subst hp
  exact pm_WP.mk ⟨i, 1, hd, Or.inr (Or.inl (Or.inr (Or.inr (Or.inr (Or.inr (Or.inl ⟨a, k, x, v, S, N, ha, rfl, rfl, hY, hx, kk⟩))))))⟩
theorem wq_ll (pc' : Nat) {k N : Nat} {x : Int32} (hd : decode cc pc = .ok (.laload, 1)) (hY : Y[k]? = some (.inl (3, N))) (hp : pc + 1 = pc') (hx : vp_in x N) (kk : pm_WP Y C o cc rt Q pc' L (.long (σ.2.1 k x.toNatClampNeg) :: S) σ) : pm_WP Y C o cc rt Q pc L (.int x :: .ref k :: S) σ := by
  subst hp
  exact pm_WP.mk ⟨_, 1, hd, Or.inr (Or.inl (Or.inr (Or.inr (Or.inr (Or.inr (Or.inr (Or.inl ⟨k, x, S, N, rfl, rfl, rfl, hY, hx, kk⟩)))))))⟩
theorem wq_lw (pc' : Nat) {k N : Nat} {x : Int32} {v : Int64} (hd : decode cc pc = .ok (.lastore, 1)) (hY : Y[k]? = some (.inl (3, N))) (hp : pc + 1 = pc') (hx : vp_in x N) (kk : pm_WP Y C o cc rt Q pc' L S (pm_plr σ k (vp_updL (σ.2.1 k) x.toNatClampNeg v))) : pm_WP Y C o cc rt Q pc L (.long v :: .int x :: .ref k :: S) σ := by
  subst hp
  exact pm_WP.mk ⟨_, 1, hd, Or.inr (Or.inl (Or.inr (Or.inr (Or.inr (Or.inr (Or.inr (Or.inr (Or.inl ⟨k, x, v, S, N, rfl, rfl, rfl, hY, hx, kk⟩))))))))⟩
theorem wq_len (pc' : Nat) {a k N : Nat} {v : Int32} (hd : decode cc pc = .ok (.arraylength, 1)) (hY : Y[k]? = some (.inl (a, N))) (hv : Int32.ofNat N = v) (hp : pc + 1 = pc') (kk : pm_WP Y C o cc rt Q pc' L (.int v :: S) σ) : pm_WP Y C o cc rt Q pc L (.ref k :: S) σ := by
  subst hp; subst hv
  exact pm_WP.mk ⟨_, 1, hd, Or.inr (Or.inl (Or.inr (Or.inr (Or.inr (Or.inr (Or.inr (Or.inr (Or.inr ⟨a, k, S, N, rfl, rfl, rfl, hY, kk⟩))))))))⟩
theorem wq_c (pc' : Nat) {idx : Nat} {v : Int32} (hd : decode cc pc = .ok (.ldc idx, 2)) (hc : pm_ct o idx = some v) (hp : pc + 2 = pc') (kk : pm_WP Y C o cc rt Q pc' L (.int v :: S) σ) : pm_WP Y C o cc rt Q pc L S σ := by
  subst hp
  exact pm_WP.mk ⟨_, 2, hd, Or.inr (Or.inr (Or.inl (Or.inl ⟨idx, v, rfl, rfl, hc, kk⟩)))⟩
theorem wq_cl (pc' : Nat) {idx : Nat} {v : Int64} (hd : decode cc pc = .ok (.ldc2_w idx, 3)) (hc : pm_ctl o idx = some v) (hp : pc + 3 = pc') (kk : pm_WP Y C o cc rt Q pc' L (.long v :: S) σ) : pm_WP Y C o cc rt Q pc L S σ := by
  subst hp
  exact pm_WP.mk ⟨_, 3, hd, Or.inr (Or.inr (Or.inl (Or.inr (Or.inl ⟨idx, v, rfl, rfl, hc, kk⟩))))⟩
theorem wq_st (pc' : Nat) {idx j : Nat} (hd : decode cc pc = .ok (.getstatic idx, 3)) (hc : pm_sf o idx = some j) (hp : pc + 3 = pc') (kk : pm_WP Y C o cc rt Q pc' L (.ref (1000 + j) :: S) σ) : pm_WP Y C o cc rt Q pc L S σ := by
  subst hp
  exact pm_WP.mk ⟨_, 3, hd, Or.inr (Or.inr (Or.inl (Or.inr (Or.inr (Or.inl ⟨idx, j, rfl, rfl, hc, kk⟩)))))⟩
theorem wq_sl (pc' : Nat) {j : Nat} {x v : Int32} {f : List Int32} (hd : decode cc pc = .ok (.iaload, 1)) (hf : pm_sa[j]? = some f) (hp : pc + 1 = pc') (hx : vp_in x f.length) (hv : f.getD x.toNatClampNeg 0 = v) (kk : pm_WP Y C o cc rt Q pc' L (.int v :: S) σ) : pm_WP Y C o cc rt Q pc L (.int x :: .ref (1000 + j) :: S) σ := by
  subst hp; subst hv
  exact pm_WP.mk ⟨_, 1, hd, Or.inr (Or.inr (Or.inl (Or.inr (Or.inr (Or.inr (Or.inl ⟨j, x, S, f, rfl, rfl, rfl, hf, hx, kk⟩))))))⟩
theorem wq_sn (pc' : Nat) {j : Nat} {v : Int32} {f : List Int32} (hd : decode cc pc = .ok (.arraylength, 1)) (hf : pm_sa[j]? = some f) (hv : Int32.ofNat f.length = v) (hp : pc + 1 = pc') (kk : pm_WP Y C o cc rt Q pc' L (.int v :: S) σ) : pm_WP Y C o cc rt Q pc L (.ref (1000 + j) :: S) σ := by
  subst hp; subst hv
  exact pm_WP.mk ⟨_, 1, hd, Or.inr (Or.inr (Or.inl (Or.inr (Or.inr (Or.inr (Or.inr (Or.inl ⟨j, S, f, rfl, rfl, rfl, hf, kk⟩)))))))⟩
theorem wq_ri {v : Int32} {ty : FieldType} (hd : decode cc pc = .ok (.ireturn, 1)) (hn : narrow ty (.int v) = .int v) (hQ : Q (some (.int v)) σ) : pm_WP Y C o cc (some ty) Q pc L [.int v] σ :=
  pm_WP.mk ⟨_, 1, hd, Or.inr (Or.inr (Or.inl (Or.inr (Or.inr (Or.inr (Or.inr (Or.inr (Or.inl ⟨v, rfl, rfl, rfl, ⟨ty, rfl, hn⟩, hQ⟩))))))))⟩
theorem wq_rl {v : Int64} (hd : decode cc pc = .ok (.lreturn, 1)) (hQ : Q (some (.long v)) σ) : pm_WP Y C o cc (some .long) Q pc L [.long v] σ :=
  pm_WP.mk ⟨_, 1, hd, Or.inr (Or.inr (Or.inl (Or.inr (Or.inr (Or.inr (Or.inr (Or.inr (Or.inr (Or.inl ⟨v, rfl, rfl, rfl, rfl, hQ⟩)))))))))⟩
theorem wq_rv (hd : decode cc pc = .ok (.return_, 1)) (hQ : Q none σ) : pm_WP Y C o cc none Q pc L [] σ :=
  pm_WP.mk ⟨_, 1, hd, Or.inr (Or.inr (Or.inl (Or.inr (Or.inr (Or.inr (Or.inr (Or.inr (Or.inr (Or.inr (Or.inr ⟨rfl, rfl, rfl, rfl, hQ⟩))))))))))⟩
theorem wq_v (pc' : Nat) {idx t k ci : Nat} {fl : List Nat} (As : List Value) {y : MethodName} {b : ByteArray} {n' : Nat} {r' : Option FieldType} {na : Nat} (hd : decode cc pc = .ok (.invokevirtual idx, 3)) (hm : pm_mt o idx = some (0, t)) (hs : S = As.reverse ++ .ref k :: S') (hy : pm_m t = some (y, b, n', r', ci, na, ci + 1)) (hn : As.length = na) (hY : Y[k]? = some (.inr (ci, fl))) (h8 : (S'.map fun v => v.category).sum ≤ 8) (hp : pc + 3 = pc') (kk : C t (.ref k :: As) σ (fun r σ' => pm_WP Y C o cc rt Q pc' L (r.toList ++ S') σ')) : pm_WP Y C o cc rt Q pc L S σ := by
  subst hp
  exact pm_WP.mk ⟨_, 3, hd, Or.inr (Or.inr (Or.inr (Or.inl ⟨idx, t, As, k, S', ci, fl, _, rfl, rfl, hm, hs, ⟨y, b, n', r', na, hy, hn⟩, hY, h8, kk, fun _ _ h => h⟩)))⟩
theorem wq_vs (pc' : Nat) {idx t : Nat} (As : List Value) {y : MethodName} {b : ByteArray} {n' : Nat} {r' : Option FieldType} {o' na : Nat} (hd : decode cc pc = .ok (.invokestatic idx, 3)) (hm : pm_mt o idx = some (1, t)) (hs : S = As.reverse ++ S') (hy : pm_m t = some (y, b, n', r', o', na, 0)) (hn : As.length = na) (h8 : (S'.map fun v => v.category).sum ≤ 8) (hp : pc + 3 = pc') (kk : C t As σ (fun r σ' => pm_WP Y C o cc rt Q pc' L (r.toList ++ S') σ')) : pm_WP Y C o cc rt Q pc L S σ := by
  subst hp
  exact pm_WP.mk ⟨_, 3, hd, Or.inr (Or.inr (Or.inr (Or.inr (Or.inl ⟨idx, t, As, S', _, rfl, rfl, hm, hs, ⟨y, b, n', r', o', na, hy, hn⟩, h8, kk, fun _ _ h => h⟩))))⟩
theorem wq_mn (pc' : Nat) {idx : Nat} {x y : Int32} (hd : decode cc pc = .ok (.invokestatic idx, 3)) (hm : pm_mt o idx = some (2, 0)) (h8 : (S.map fun v => v.category).sum ≤ 8) (hp : pc + 3 = pc') (kk : pm_WP Y C o cc rt Q pc' L (.int (if y < x then y else x) :: S) σ) : pm_WP Y C o cc rt Q pc L (.int y :: .int x :: S) σ := by
  subst hp
  exact pm_WP.mk ⟨_, 3, hd, Or.inr (Or.inr (Or.inr (Or.inr (Or.inr (Or.inl ⟨idx, x, y, S, rfl, rfl, hm, rfl, h8, kk⟩)))))⟩
theorem wq_mx (pc' : Nat) {idx : Nat} {x y : Int32} (hd : decode cc pc = .ok (.invokestatic idx, 3)) (hm : pm_mt o idx = some (3, 0)) (h8 : (S.map fun v => v.category).sum ≤ 8) (hp : pc + 3 = pc') (kk : pm_WP Y C o cc rt Q pc' L (.int (if x < y then y else x) :: S) σ) : pm_WP Y C o cc rt Q pc L (.int y :: .int x :: S) σ := by
  subst hp
  exact pm_WP.mk ⟨_, 3, hd, Or.inr (Or.inr (Or.inr (Or.inr (Or.inr (Or.inr (Or.inl ⟨idx, x, y, S, rfl, rfl, hm, rfl, h8, kk⟩))))))⟩
theorem wq_ml (pc' : Nat) {idx : Nat} {x y : Int64} (hd : decode cc pc = .ok (.invokestatic idx, 3)) (hm : pm_mt o idx = some (5, 0)) (h8 : (S.map fun v => v.category).sum ≤ 8) (hp : pc + 3 = pc') (kk : pm_WP Y C o cc rt Q pc' L (.long (if y < x then y else x) :: S) σ) : pm_WP Y C o cc rt Q pc L (.long y :: .long x :: S) σ := by
  subst hp
  exact pm_WP.mk ⟨_, 3, hd, Or.inr (Or.inr (Or.inr (Or.inr (Or.inr (Or.inr (Or.inr (Or.inl ⟨idx, x, y, S, rfl, rfl, hm, rfl, h8, kk⟩)))))))⟩
theorem wq_cp (pc' : Nat) {idx a b N M : Nat} {w dp sp : Int32} (hd : decode cc pc = .ok (.invokestatic idx, 3)) (hm : pm_mt o idx = some (4, 0)) (h8 : (S.map fun v => v.category).sum ≤ 8) (ha : Y[a]? = some (.inl (0, N))) (hb : Y[b]? = some (.inl (0, M))) (hp : pc + 3 = pc') (h1 : ¬ sp < 0) (h2 : ¬ dp < 0) (h3 : ¬ w < 0) (h4 : sp.toNatClampNeg + w.toNatClampNeg ≤ N) (h5 : dp.toNatClampNeg + w.toNatClampNeg ≤ M) (kk : pm_WP Y C o cc rt Q pc' L S (pm_pr σ b (va_cpy (σ.2.2 a) (σ.2.2 b) sp.toNatClampNeg dp.toNatClampNeg w.toNatClampNeg))) : pm_WP Y C o cc rt Q pc L (.int w :: .int dp :: .ref b :: .int sp :: .ref a :: S) σ := by
  subst hp
  exact pm_WP.mk ⟨_, 3, hd, Or.inr (Or.inr (Or.inr (Or.inr (Or.inr (Or.inr (Or.inr (Or.inr (Or.inl ⟨idx, w, dp, sp, a, b, S, N, M, rfl, rfl, hm, rfl, h8, ha, hb, h1, h2, h3, h4, h5, kk⟩))))))))⟩
theorem wq_5 (hd : decode cc pc = .ok (i, n)) (h : pm_G5 C o i n (pm_WP Y C o cc rt Q) pc L S σ) : pm_WP Y C o cc rt Q pc L S σ :=
  pm_WP.mk ⟨i, n, hd, Or.inr (Or.inr (Or.inr (Or.inr (Or.inr (Or.inr (Or.inr (Or.inr (Or.inr h))))))))⟩
theorem wq_ks (pc' j : Nat) {idx : Nat} (hd : decode cc pc = .ok (.ldc idx, 2)) (hc : pm_stt o idx = some j) (hp : pc + 2 = pc') (kk : pm_WP Y C o cc rt Q pc' L (.ref (1100 + j) :: S) σ) : pm_WP Y C o cc rt Q pc L S σ := by
  subst hp; exact wq_5 hd (Or.inl ⟨idx, j, rfl, rfl, hc, kk⟩)
theorem wq_kc (pc' : Nat) {idx j : Nat} (hd : decode cc pc = .ok (.getfield idx, 3)) (hj : j < 9) (hc : pm_sgf o idx = some 0) (hp : pc + 3 = pc') (kk : pm_WP Y C o cc rt Q pc' L (.int 0 :: S) σ) : pm_WP Y C o cc rt Q pc L (.ref (1100 + j) :: S) σ := by
  subst hp; exact wq_5 hd (Or.inr (Or.inl ⟨idx, j, S, rfl, rfl, rfl, hj, hc, kk⟩))
theorem wq_kv (pc' : Nat) {idx j : Nat} (hd : decode cc pc = .ok (.getfield idx, 3)) (hj : j < 9) (hc : pm_sgf o idx = some 1) (hp : pc + 3 = pc') (kk : pm_WP Y C o cc rt Q pc' L (.ref (1200 + j) :: S) σ) : pm_WP Y C o cc rt Q pc L (.ref (1100 + j) :: S) σ := by
  subst hp; exact wq_5 hd (Or.inr (Or.inr (Or.inl ⟨idx, j, S, rfl, rfl, rfl, hj, hc, kk⟩)))
theorem wq_kb (pc' : Nat) {j : Nat} {x : Int32} (hd : decode cc pc = .ok (.baload, 1)) (hj : j < 9) (hp : pc + 1 = pc') (hx : vp_in x (pm_sln j)) (kk : pm_WP Y C o cc rt Q pc' L (.int (pm_sbt j x.toNatClampNeg) :: S) σ) : pm_WP Y C o cc rt Q pc L (.int x :: .ref (1200 + j) :: S) σ := by
  subst hp; exact wq_5 hd (Or.inr (Or.inr (Or.inr (Or.inl ⟨j, x, S, rfl, rfl, rfl, hj, hx, kk⟩))))
theorem wq_kn (pc' : Nat) {j : Nat} (hd : decode cc pc = .ok (.arraylength, 1)) (hj : j < 9) (hp : pc + 1 = pc') (kk : pm_WP Y C o cc rt Q pc' L (.int (nI (pm_sln j)) :: S) σ) : pm_WP Y C o cc rt Q pc L (.ref (1200 + j) :: S) σ := by
  subst hp; exact wq_5 hd (Or.inr (Or.inr (Or.inr (Or.inr (Or.inl ⟨j, S, rfl, rfl, rfl, hj, kk⟩)))))
theorem wq_kz (pc' : Nat) {idx : Nat} (hd : decode cc pc = .ok (.getstatic idx, 3)) (hc : pm_sgf o idx = some 2) (hp : pc + 3 = pc') (kk : pm_WP Y C o cc rt Q pc' L (.int 1 :: S) σ) : pm_WP Y C o cc rt Q pc L S σ := by
  subst hp; exact wq_5 hd (Or.inr (Or.inr (Or.inr (Or.inr (Or.inr (Or.inl ⟨idx, rfl, rfl, hc, kk⟩))))))
theorem wq_kk (pc' : Nat) {idx t j : Nat} (As : List Value) {y : MethodName} {b : ByteArray} {n' : Nat} {r' : Option FieldType} {na : Nat} (hd : decode cc pc = .ok (.invokevirtual idx, 3)) (hm : pm_mt o idx = some (0, t)) (hs : S = As.reverse ++ .ref (1100 + j) :: S') (hy : pm_m t = some (y, b, n', r', 13, na, 14)) (hn : As.length = na) (hj : j < 9) (h8 : (S'.map fun v => v.category).sum ≤ 8) (hp : pc + 3 = pc') (kk : C t (.ref (1100 + j) :: As) σ (fun r σ' => pm_WP Y C o cc rt Q pc' L (r.toList ++ S') σ')) : pm_WP Y C o cc rt Q pc L S σ := by
  subst hp; exact wq_5 hd (Or.inr (Or.inr (Or.inr (Or.inr (Or.inr (Or.inr ⟨idx, t, As, j, S', _, rfl, rfl, hm, hs, ⟨y, b, n', r', na, hy, hn⟩, hj, h8, kk, fun _ _ h => h⟩))))))
/-- a method: its row of the table, its slots, its walk -/
theorem wq_m {d t : Nat} {As : List Value} {y : MethodName} {n : Nat} {na oc : Nat} (hm : pm_m t = some (y, cc, n, rt, o, na, oc)) (h1 : (pm_ar As).length ≤ n) (h2 : n ≤ 20) (hL : pm_en n As = L) (k : pm_WP Y (pm_call Y d) o cc rt Q 0 L [] σ) : pm_call Y (d + 1) t As σ Q := by
  subst hL
  exact ⟨y, cc, n, rt, o, na, oc, hm, h1, h2, k⟩
end PMR
