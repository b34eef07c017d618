/-! THE PURE MACHINE, its instructions that need neither the state nor a table -/
/-- what works on the operand stack alone: its length, the new stack -/
def pm_alu (i : Instr) (S : List Value) : Option (Nat × List Value) := match i, S with
  | .iconst c, S => some (1, .int (Int32.ofInt c) :: S)
  | .bipush c, S => some (2, .int (Int8.ofInt c).toInt32 :: S)
  | .sipush c, S => some (3, .int (Int16.ofInt c).toInt32 :: S)
  | .lconst c, S => some (1, .long (Int64.ofNat (c : Nat)) :: S)
  | .iadd, .int y :: .int x :: S => some (1, .int (x + y) :: S)
  | .isub, .int y :: .int x :: S => some (1, .int (x - y) :: S)
  | .imul, .int y :: .int x :: S => some (1, .int (x * y) :: S)
  | .iand, .int y :: .int x :: S => some (1, .int (x &&& y) :: S)
  | .ior, .int y :: .int x :: S => some (1, .int (x ||| y) :: S)
  | .ixor, .int y :: .int x :: S => some (1, .int (x ^^^ y) :: S)
  | .ineg, .int x :: S => some (1, .int (-x) :: S)
  | .lor, .long y :: .long x :: S => some (1, .long (x ||| y) :: S)
  | .lshl, .int y :: .long x :: S => some (1, .long (x <<< (y.toInt64 &&& 63)) :: S)
  | .ladd, .long y :: .long x :: S => some (1, .long (x + y) :: S)
  | .lsub, .long y :: .long x :: S => some (1, .long (x - y) :: S)
  | .lmul, .long y :: .long x :: S => some (1, .long (x * y) :: S)
  | .lneg, .long x :: S => some (1, .long (-x) :: S)
  | .lcmp, .long y :: .long x :: S => some (1, .int (lg_cmp x y) :: S)
  | .ishl, .int y :: .int x :: S => some (1, .int (x <<< (y &&& 31)) :: S)
  | .ishr, .int y :: .int x :: S => some (1, .int (x >>> (y &&& 31)) :: S)
  | .iushr, .int y :: .int x :: S => some (1, .int (x.toUInt32 >>> (y.toUInt32 &&& Int32.toUInt32 31)).toInt32 :: S)
  | .i2l, .int x :: S => some (1, .long x.toInt64 :: S)
  | .l2i, .long x :: S => some (1, .int x.toInt32 :: S)
  | .i2b, .int x :: S => some (1, .int x.toInt8.toInt32 :: S)
  | .i2c, .int x :: S => some (1, .int (x.toUInt32 % 65536).toInt32 :: S)
  | .dup, .int x :: S => some (1, .int x :: .int x :: S)
  | .dup, .ref x :: S => some (1, .ref x :: .ref x :: S)
  | .pop, .int _ :: S => some (1, S)
  | .pop, .ref _ :: S => some (1, S)
  | .dup_x1, .int x :: .ref y :: S => some (1, .int x :: .ref y :: .int x :: S)
  | .dup_x1, .int x :: .int y :: S => some (1, .int x :: .int y :: .int x :: S)
  | .dup_x2, .int x :: .int y :: .ref z :: S => some (1, .int x :: .int y :: .ref z :: .int x :: S)
  | .dup2, .int x :: .ref y :: S => some (1, .int x :: .ref y :: .int x :: .ref y :: S)
  | .dup2, .int x :: .int y :: S => some (1, .int x :: .int y :: .int x :: .int y :: S)
  | _, _ => none
/-- divisions: the divisor isn't 0 -/
def pm_dv (i : Instr) (S : List Value) : Option (Prop × List Value) := match i, S with
  | .idiv, .int y :: .int x :: S => some (¬ y = 0, .int (x / y) :: S)
  | .irem, .int y :: .int x :: S => some (¬ y = 0, .int (x - x / y * y) :: S)
  | .ldiv, .long y :: .long x :: S => some (¬ y = 0, .long (x / y) :: S)
  | _, _ => none
/-- loads and stores of locals: kind (0 int, 1 long, 2 reference), slot, length -/
def pm_ld (i : Instr) : Option (Nat × Nat × Nat) := match i with
  | .iload k => some (0, k, 2)
  | .iload_n k => some (0, k.val, 1)
  | .lload k => some (1, k, 2)
  | .lload_n k => some (1, k.val, 1)
  | .aload k => some (2, k, 2)
  | .aload_n k => some (2, k.val, 1)
  | _ => none
def pm_sr (i : Instr) : Option (Nat × Nat × Nat) := match i with
  | .istore k => some (0, k, 2)
  | .istore_n k => some (0, k.val, 1)
  | .lstore k => some (1, k, 2)
  | .lstore_n k => some (1, k.val, 1)
  | .astore k => some (2, k, 2)
  | .astore_n k => some (2, k.val, 1)
  | _ => none
def pm_kd (v : Value) : Nat := match v with
  | .int _ => 0
  | .long _ => 1
  | .ref _ => 2
  | _ => 9
theorem pm_kd0 {v : Value} (h : pm_kd v = 0) : ∃ x, v = .int x := by cases v <;> first | exact ⟨_, rfl⟩ | cases h
theorem pm_kd1 {v : Value} (h : pm_kd v = 1) : ∃ x, v = .long x := by cases v <;> first | exact ⟨_, rfl⟩ | cases h
theorem pm_kd2 {v : Value} (h : pm_kd v = 2) : ∃ x, v = .ref x := by cases v <;> first | exact ⟨_, rfl⟩ | cases h
/-- a branch: its condition, its offset, the stack behind it -/
def pm_br (i : Instr) (S : List Value) : Option (Prop × Int × List Value) := match i, S with
  | .ifCond .eq o, .int x :: S => some (x = 0, o, S)
  | .ifCond .ne o, .int x :: S => some (¬ x = 0, o, S)
  | .ifCond .lt o, .int x :: S => some (x < 0, o, S)
  | .ifCond .ge o, .int x :: S => some (0 ≤ x, o, S)
  | .ifCond .gt o, .int x :: S => some (0 < x, o, S)
  | .ifCond .le o, .int x :: S => some (x ≤ 0, o, S)
  | .if_icmp .eq o, .int y :: .int x :: S => some (x = y, o, S)
  | .if_icmp .ne o, .int y :: .int x :: S => some (¬ x = y, o, S)
  | .if_icmp .lt o, .int y :: .int x :: S => some (x < y, o, S)
  | .if_icmp .ge o, .int y :: .int x :: S => some (y ≤ x, o, S)
  | .if_icmp .gt o, .int y :: .int x :: S => some (y < x, o, S)
  | .if_icmp .le o, .int y :: .int x :: S => some (x ≤ y, o, S)
  | _, _ => none
section PMO
variable {p : Program} {l : Launch} {e : Env} {R : Room} {s : State} {m : MethodId} {args : Array Value} {below : List Frame} {meth : Method} {c : Code} {H : Heap} {locs : List Loc} {cells slots : Nat} {Q : State → Prop}
variable {cc : ByteArray} {pc n : Nat} {ls : Array Slot}
set_option maxHeartbeats 4000000 in
theorem pm_alu_W (hx : p.tables.exec = Jvm.exec) (hb : c.code = cc) {ad : Nat → Nat} {i : Instr} {S S' : List Value} (hd : decode cc pc = .ok (i, n)) (ha : pm_alu i S = some (n, S'))
    (k : W p l e R s m args below meth c H locs cells slots Q (F0 m (pc + n) ls (S'.map (pm_tau ad)))) : W p l e R s m args below meth c H locs cells slots Q (F0 m pc ls (S.map (pm_tau ad))) := by
  unfold pm_alu at ha
  split at ha <;> simp only [Option.some.injEq, Prod.mk.injEq, reduceCtorEq] at ha <;> (try (obtain ⟨rfl, rfl⟩ := ha)) <;> simp only [List.map_cons, pm_tau] at k ⊢
  · exact lv_iconst hx hb hd rfl k
  · exact lv_bipush hx hb hd rfl k
  · exact lv_sipush hx hb hd rfl k
  · exact lv_lconst hx hb hd rfl k
  · exact lv_iadd hx hb hd k
  · exact lv_isub hx hb hd k
  · exact lv_imul hx hb hd k
  · exact lv_iand hx hb hd k
  · exact lv_ior hx hb hd k
  · exact lv_ixor hx hb hd k
  · exact lv_ineg hx hb hd k
  · exact lv_lor hx hb hd k
  · exact lv_lshl hx hb hd rfl k
  · exact lv_ladd hx hb hd k
  · exact lv_lsub hx hb hd k
  · exact lv_lmul hx hb hd k
  · exact lv_lneg hx hb hd k
  · exact W.lcmp hx hb hd k
  · exact lv_ishl hx hb hd k
  · exact lv_ishr hx hb hd k
  · exact lv_iushr hx hb hd rfl k
  · exact lv_i2l hx hb hd rfl k
  · exact lv_l2i hx hb hd rfl k
  · exact lv_i2b hx hb hd rfl k
  · exact lv_i2c hx hb hd rfl k
  · exact lv_dup hx hb hd rfl k
  · exact lv_dup hx hb hd rfl k
  · exact lv_pop hx hb hd rfl k
  · exact lv_pop hx hb hd rfl k
  · exact lv_dup_x1 hx hb hd rfl rfl k
  · exact lv_dup_x1 hx hb hd rfl rfl k
  · exact lv_dup_x2 hx hb hd rfl rfl rfl k
  · exact lv_dup2_11 hx hb hd rfl rfl k
  · exact lv_dup2_11 hx hb hd rfl rfl k
theorem pm_dv_W (hx : p.tables.exec = Jvm.exec) (hb : c.code = cc) {ad : Nat → Nat} {i : Instr} {S S' : List Value} {cd : Prop} (hd : decode cc pc = .ok (i, 1)) (ha : pm_dv i S = some (cd, S')) (hc : cd)
    (k : W p l e R s m args below meth c H locs cells slots Q (F0 m (pc + 1) ls (S'.map (pm_tau ad)))) : W p l e R s m args below meth c H locs cells slots Q (F0 m pc ls (S.map (pm_tau ad))) := by
  unfold pm_dv at ha
  split at ha <;> simp only [Option.some.injEq, Prod.mk.injEq, reduceCtorEq] at ha <;> (try (obtain ⟨rfl, rfl⟩ := ha)) <;> simp only [List.map_cons, pm_tau] at k ⊢
  · exact lv_idiv hx hb hd hc k
  · exact lv_irem hx hb hd hc k
  · exact lv_ldiv hx hb hd hc k
theorem pm_ld_W (hx : p.tables.exec = Jvm.exec) (hb : c.code = cc) {ad : Nat → Nat} {i : Instr} {S L : List Value} {kd j : Nat} {v : Value} (hd : decode cc pc = .ok (i, n)) (ha : pm_ld i = some (kd, j, n)) (hl : pm_lh ad ls L) (hv : L[j]? = some v) (hk : pm_kd v = kd)
    (k : W p l e R s m args below meth c H locs cells slots Q (F0 m (pc + n) ls ((v :: S).map (pm_tau ad)))) : W p l e R s m args below meth c H locs cells slots Q (F0 m pc ls (S.map (pm_tau ad))) := by
  have hj : v ≠ pm_jk := fun q => by rw [q] at hk; subst hk; unfold pm_ld at ha; split at ha <;> simp [pm_kd, pm_jk] at ha
  have hg := hl.2.2 j v hv hj
  unfold pm_ld at ha
  split at ha <;> simp only [Option.some.injEq, Prod.mk.injEq, reduceCtorEq] at ha <;> (try (obtain ⟨rfl, rfl, rfl⟩ := ha))
  · obtain ⟨x, rfl⟩ := pm_kd0 hk; exact lv_iload hx hb hd hg k
  · obtain ⟨x, rfl⟩ := pm_kd0 hk; exact lv_iload_n hx hb hd rfl hg k
  · obtain ⟨x, rfl⟩ := pm_kd1 hk; exact lv_lload hx hb hd hg k
  · obtain ⟨x, rfl⟩ := pm_kd1 hk; exact lv_lload_n hx hb hd rfl hg k
  · obtain ⟨x, rfl⟩ := pm_kd2 hk; exact lv_aload hx hb hd hg k
  · obtain ⟨x, rfl⟩ := pm_kd2 hk; exact lv_aload_n hx hb hd rfl hg k
theorem pm_br_W (hx : p.tables.exec = Jvm.exec) (hb : c.code = cc) {ad : Nat → Nat} {i : Instr} {S S' : List Value} {cd : Prop} {off : Int} {tgt : Nat} (hd : decode cc pc = .ok (i, 3)) (ha : pm_br i S = some (cd, off, S')) (ht : (pc : Int) + off = (tgt : Int))
    (kt : cd → W p l e R s m args below meth c H locs cells slots Q (F0 m tgt ls (S'.map (pm_tau ad)))) (kf : ¬ cd → W p l e R s m args below meth c H locs cells slots Q (F0 m (pc + 3) ls (S'.map (pm_tau ad)))) : W p l e R s m args below meth c H locs cells slots Q (F0 m pc ls (S.map (pm_tau ad))) := by
  unfold pm_br at ha
  split at ha <;> simp only [Option.some.injEq, Prod.mk.injEq, reduceCtorEq] at ha <;> (try (obtain ⟨rfl, rfl, rfl⟩ := ha)) <;> simp only [List.map_cons, pm_tau] at kt kf ⊢
  · exact lv_if_eq hx hb hd ht kt kf
  · exact lv_if_ne hx hb hd ht kt (fun q => kf (fun z => z q))
  · exact lv_if_lt hx hb hd ht kt kf
  · exact lv_if_ge hx hb hd ht kt kf
  · exact lv_if_gt hx hb hd ht kt kf
  · exact lv_if_le hx hb hd ht kt kf
  · exact lv_icmp_eq hx hb hd ht kt kf
  · exact lv_icmp_ne hx hb hd ht kt (fun q => kf (fun z => z q))
  · exact lv_icmp_lt hx hb hd ht kt kf
  · exact lv_icmp_ge hx hb hd ht kt kf
  · exact lv_icmp_gt hx hb hd ht kt kf
  · exact lv_icmp_le hx hb hd ht kt kf
/-- a store: kinds 0 and 2 take one slot, kind 1 two -/
def pm_sto (kd : Nat) (L : List Value) (j : Nat) (v : Value) : List Value := bif kd == 1 then pm_st2 L j v else pm_st L j v
theorem pm_sr_W (hx : p.tables.exec = Jvm.exec) (hb : c.code = cc) {ad : Nat → Nat} {i : Instr} {S L : List Value} {kd j : Nat} {v : Value} (hd : decode cc pc = .ok (i, n)) (ha : pm_sr i = some (kd, j, n)) (hl : pm_lh ad ls L) (hk : pm_kd v = kd) (hj : j + kd % 2 < L.length)
    (k : ∀ ls', pm_lh ad ls' (pm_sto kd L j v) → W p l e R s m args below meth c H locs cells slots Q (F0 m (pc + n) ls' (S.map (pm_tau ad)))) : W p l e R s m args below meth c H locs cells slots Q (F0 m pc ls ((v :: S).map (pm_tau ad))) := by
  unfold pm_sr at ha
  split at ha <;> simp only [Option.some.injEq, Prod.mk.injEq, reduceCtorEq] at ha <;> (try (obtain ⟨rfl, rfl, rfl⟩ := ha))
  · obtain ⟨x, rfl⟩ := pm_kd0 hk; exact lv_istore hx hb hd hl.has hj rfl (fun ls' h => k ls' (pm_lh.of1 (v := .int x) hj h))
  · obtain ⟨x, rfl⟩ := pm_kd0 hk; exact lv_istore_n hx hb hd rfl hl.has hj rfl (fun ls' h => k ls' (pm_lh.of1 (v := .int x) hj h))
  · obtain ⟨x, rfl⟩ := pm_kd1 hk; exact lv_lstore hx hb hd hl.has hj rfl (fun ls' h => k ls' (pm_lh.of2 (v := .long x) hj h))
  · obtain ⟨x, rfl⟩ := pm_kd1 hk; exact lv_lstore_n hx hb hd rfl hl.has hj rfl (fun ls' h => k ls' (pm_lh.of2 (v := .long x) hj h))
  · obtain ⟨x, rfl⟩ := pm_kd2 hk; exact lv_astore hx hb hd hl.has hj rfl (fun ls' h => k ls' (pm_lh.of1 (v := .ref x) hj h))
  · obtain ⟨x, rfl⟩ := pm_kd2 hk; exact lv_astore_n hx hb hd rfl hl.has hj rfl (fun ls' h => k ls' (pm_lh.of1 (v := .ref x) hj h))
theorem pm_inc_W (hx : p.tables.exec = Jvm.exec) (hb : c.code = cc) {ad : Nat → Nat} {S L : List Value} {j : Nat} {d : Int} {x : Int32} (hd : decode cc pc = .ok (.iinc j d, 3)) (hl : pm_lh ad ls L) (hv : L[j]? = some (.int x))
    (k : ∀ ls', pm_lh ad ls' (pm_st L j (.int (x + Int32.ofInt d))) → W p l e R s m args below meth c H locs cells slots Q (F0 m (pc + 3) ls' (S.map (pm_tau ad)))) : W p l e R s m args below meth c H locs cells slots Q (F0 m pc ls (S.map (pm_tau ad))) := by
  have hj : j < L.length := (List.getElem?_eq_some_iff.mp hv).1
  obtain ⟨k0, hk0⟩ := List.getElem?_of_mem (pm_as_mem (ad := ad) (L := L) (q := (j, .int x)) |>.mpr ⟨.int x, hv, by simp [pm_jk], rfl⟩)
  exact lv_iinc hx hb hd hl.has hk0 rfl hj rfl (fun ls' h => k ls' (pm_lh.of1 (v := .int (x + Int32.ofInt d)) hj h))
end PMO
