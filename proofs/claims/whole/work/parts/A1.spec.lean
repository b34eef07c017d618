/-! THE RULES, over the list of nodes: l = kinds, places, values, sizes in the order of a walk -/
def rl_x (l : List pg_N) (i : Nat) : pg_N := l.getD i (99, 0, -1, 1)
def rl_k (l : List pg_N) (i : Nat) : Nat := (rl_x l i).1
def rl_v (l : List pg_N) (i : Nat) : Int32 := (rl_x l i).2.2.1
def rl_z (l : List pg_N) (i : Nat) : Nat := (rl_x l i).2.2.2
/-- the trees from s on, before e -/
def rl_ch (l : List pg_N) : Nat → Nat → Nat → List Nat
  | 0, _, _ => []
  | f + 1, s, e => if s < e then s :: rl_ch l f (s + rl_z l s) e else []
def rl_c (l : List pg_N) (i : Nat) : List Nat := rl_ch l l.length (i + 1) (i + rl_z l i)
/-- the nodes around i, the innermost first -/
def rl_up (l : List pg_N) (i : Nat) : List Nat := (List.range i).reverse.filter (fun j => decide (i < j + rl_z l j))
def rl_par (l : List pg_N) (i : Nat) : Nat := (rl_up l i).headD 0
/-- a variable: name, sort (0 simple, 1 array, 2 instance), type (of an instance its block: 0 to 8 standard, 9 + b own), section, place or -1, cell -/
abbrev rl_V := Int32 × Nat × Int32 × Nat × Int32 × Nat
/-- a block: kind, name, node, cells so far, variables, the newest first -/
abbrev rl_B := Nat × Int32 × Nat × Nat × List rl_V
/-- blocks, the newest first; types, cells, meanings of the nodes -/
abbrev rl_A := List rl_B × (Nat → Int32) × (Nat → Int32) × (Nat → Int32)
def rl_fn (x : Int32) : Option Nat := if 50 ≤ x.toInt ∧ x.toInt < 60 then some (x.toNatClampNeg - 50) else none
def rl_sb (x : Int32) : Option Nat := if 41 ≤ x.toInt ∧ x.toInt < 50 then some (x.toNatClampNeg - 41) else none
def rl_find (vs : List rl_V) (x : Int32) : Option rl_V := vs.find? (fun v => decide (v.1 = x))
/-- the number of the own block of this name -/
def rl_own : List rl_B → Int32 → Option (Nat × rl_B)
  | [], _ => none
  | b :: r, x => if b.2.1 = x then some (r.length, b) else rl_own r x
/-- inputs and outputs of the standard blocks: block, name, section, type, cell -/
def rl_pins : List (Nat × Int32 × Nat × Int32 × Nat) := [
  (0, 60, 1, 0, 0), (0, 61, 1, 2, 1), (0, 62, 2, 0, 2), (0, 63, 2, 2, 3), (1, 60, 1, 0, 0), (1, 61, 1, 2, 1), (1, 62, 2, 0, 2), (1, 63, 2, 2, 3),
  (2, 60, 1, 0, 0), (2, 61, 1, 2, 1), (2, 62, 2, 0, 2), (2, 63, 2, 2, 3),
  (3, 64, 1, 0, 0), (3, 65, 1, 0, 1), (3, 66, 1, 1, 2), (3, 62, 2, 0, 3), (3, 67, 2, 1, 4),
  (4, 68, 1, 0, 0), (4, 69, 1, 0, 1), (4, 66, 1, 1, 2), (4, 62, 2, 0, 3), (4, 67, 2, 1, 4),
  (5, 70, 1, 0, 0), (5, 62, 2, 0, 1), (6, 70, 1, 0, 0), (6, 62, 2, 0, 1),
  (7, 71, 1, 0, 0), (7, 65, 1, 0, 1), (7, 72, 2, 0, 2), (8, 73, 1, 0, 0), (8, 74, 1, 0, 1), (8, 72, 2, 0, 2)]
def rl_ssz (s : Nat) : Nat := if s < 5 then 6 else 3
/-- own block number b, of all blocks -/
def rl_blk (B : List rl_B) (b : Nat) : Option rl_B := B.reverse[b]?
/-- section, type, cell of the input or output x of block q -/
def rl_pin (B : List rl_B) (q : Nat) (x : Int32) : Option (Nat × Int32 × Nat) :=
  if q < 9 then (rl_pins.find? (fun r => decide (r.1 = q ∧ r.2.1 = x))).map (fun r => (r.2.2.1, r.2.2.2.1, r.2.2.2.2))
  else match rl_blk B (q - 9) with
    | none => none
    | some b => (rl_find b.2.2.2.2 x).map (fun v => (v.2.2.2.1, v.2.2.1, v.2.2.2.2.2))
/-- a block that an instance may be of -/
def rl_inst (B : List rl_B) (x : Int32) : Option Nat := match rl_sb x with
  | some s => some s
  | none => match rl_own B.tail x with
    | some (b, y) => if y.1 = 2 then some (9 + b) else none
    | none => none
def rl_num (x : Int32) : Bool := decide (x = 1 ∨ x = 2)
def rl_fits (a b : Int32) : Bool := decide (a = b ∨ (a = 1 ∧ b = 2))
def rl_wid (a b : Int32) : Int32 := if 1 ≤ a.toInt ∧ 1 ≤ b.toInt then (if a < b then b else a) else -1
def rl_com (a b : Int32) : Int32 := if a = 0 ∧ b = 0 then 0 else rl_wid a b
def rl_up1 (A : rl_A) (b : rl_B) : rl_A := (b :: A.1.tail, A.2)
def rl_cur (A : rl_A) : rl_B := A.1.headD (0, -1, 0, 0, [])
def rl_taken (A : rl_A) (x : Int32) : Bool := (rl_sb x).isSome || (rl_fn x).isSome || (rl_own A.1 x).isSome
def rl_set (f : Nat → Int32) (i : Nat) (x : Int32) : Nat → Int32 := fun j => if j = i then x else f j
def rl_ty (A : rl_A) (i : Nat) (x : Int32) : rl_A := (A.1, rl_set A.2.1 i x, A.2.2)
def rl_ce (A : rl_A) (i : Nat) (x : Int32) : rl_A := (A.1, A.2.1, rl_set A.2.2.1 i x, A.2.2.2)
def rl_me (A : rl_A) (i : Nat) (x : Int32) : rl_A := (A.1, A.2.1, A.2.2.1, rl_set A.2.2.2 i x)
def rl_tk (A : rl_A) (n : Nat) : rl_A := rl_up1 A ((rl_cur A).1, (rl_cur A).2.1, (rl_cur A).2.2.1, (rl_cur A).2.2.2.1 + n, (rl_cur A).2.2.2.2)
def rl_fr (A : rl_A) : Nat := (rl_cur A).2.2.2.1
/-- a node is entered -/
def rl_in (l : List pg_N) (A : rl_A) (i : Nat) : Nat × rl_A :=
  let k := rl_k l i
  let x := rl_v l i
  if 1 ≤ k ∧ k ≤ 3 then
    if A.1 ≠ [] ∧ (rl_cur A).1 = 3 then (10, A)
    else if rl_taken A x = true then (11, A)
    else (0, ((k, x, i, if k = 3 then 960 else if k = 1 then 1 else 0, if k = 1 then [(x, 0, rl_v l (i + 1), 0, -1, 0)] else []) :: A.1, A.2))
  else if k = 16 then (0, rl_tk (rl_ce A i (nI (rl_fr A))) 1)
  else if k = 19 then (0, rl_tk (rl_me A i (nI (rl_fr A))) 1)
  else if k = 25 ∧ 2 ≤ x.toInt then (0, rl_tk (rl_ce A i (nI (rl_fr A))) 1)
  else (0, A)
/-- variables of sort 3: declared by name, their type not yet known -/
def rl_isin (v : rl_V) : Bool := decide (v.2.2.2.1 = 1 ∧ v.2.1 ≠ 3)
def rl_nin (b : rl_B) : Nat := (b.2.2.2.2.filter rl_isin).length
/-- cells of all: the program's, then the functions' -/
def rl_all (B : List rl_B) : Nat := (B.headD (0, -1, 0, 0, [])).2.2.2.1 + ((B.filter (fun b => decide (b.1 = 1))).map (fun b => b.2.2.2.1)).sum
def rl_area (a : Int32) : Nat := a.toNatClampNeg / 256
def rl_img (a : Int32) : Nat := a.toNatClampNeg % 256 + (if rl_area a < 3 then 256 * rl_area a else 768 + 64 * (rl_area a - 3))
/-- a constant that can't be of the type -/
def rl_bad (k : Nat) (x t : Int32) : Bool := (decide (k = 31) != decide (t = 0)) || decide (t = 1 ∧ (x.toInt < -32768 ∨ 32767 < x.toInt))
/-- the m newest variables get sort, type, place and cells; z cells each -/
def rl_settle (s : Nat) (t : Int32) (at_ : Int32) (f z : Nat) : Nat → List rl_V → List rl_V
  | 0, vs => vs
  | _ + 1, [] => []
  | m + 1, v :: vs => (v.1, s, t, v.2.2.2.1, at_, if at_ = -1 then f + m * z else rl_img at_) :: rl_settle s t at_ f z m vs
def rl_many (l : List pg_N) (y : Nat) : Int := (rl_v l (y + 2)).toInt - (rl_v l (y + 1)).toInt + 1
def rl_decl (l : List pg_N) (A : rl_A) (i : Nat) : Nat × rl_A :=
  let cs := rl_c l i
  let m := (cs.takeWhile (fun c => rl_k l c == 6)).length
  let hp := rl_k l (cs.getD m 0) == 7
  let sp : Int32 := if hp then rl_v l (cs.getD m 0) else -1
  let j := if hp then m + 1 else m
  let y := cs.getD j 0
  let part := (rl_v l (rl_par l i)).toNatClampNeg
  let s := rl_k l y - 8
  let q := (rl_inst A.1 (rl_v l y)).getD 0
  let t : Int32 := if s = 0 then rl_v l y else if s = 1 then rl_v l (y + 3) else nI q
  let z := if s = 0 then 1 else if s = 1 then (rl_many l y).toNat else if q < 9 then rl_ssz q else ((rl_blk A.1 (q - 9)).getD (0, -1, 0, 0, [])).2.2.2.1
  let inp := hp && decide (rl_area sp % 3 = 0)
  let b := rl_cur A
  let f := if hp then b.2.2.2.1 else b.2.2.2.1 + m * z
  if part ≠ 0 ∧ s ≠ 0 then (43, A)
  else if hp = true ∧ (s ≠ 0 ∨ t ≠ (if rl_area sp < 3 then 0 else 1)) then (15, A)
  else if j + 1 < cs.length ∧ (s = 2 ∨ inp = true ∨ rl_bad (rl_k l (cs.getD (j + 1) 0)) (rl_v l (cs.getD (j + 1) 0)) t = true) then (18, A)
  else if 4096 < f then (19, A)
  else (0, (b.1, b.2.1, b.2.2.1, f, rl_settle s t sp b.2.2.2.1 z m b.2.2.2.2) :: A.1.tail, A.2.1, (fun c => if i < c ∧ c ≤ i + m then nI (if hp then rl_img sp else b.2.2.2.1 + (c - i - 1) * z) else A.2.2.1 c), A.2.2.2)
/-- the variable x of the current block is of this sort -/
def rl_srt (A : rl_A) (x : Int32) (s : Nat) : Nat := match rl_find (rl_cur A).2.2.2.2 x with
  | none => 20
  | some v => if v.2.1 = s then 0 else 21
def rl_var (A : rl_A) (x : Int32) : rl_V := (rl_find (rl_cur A).2.2.2.2 x).getD (0, 0, 0, 0, -1, 0)
def rl_loop (l : List pg_N) (i : Nat) (x : Int32) : Bool := (rl_up l i).any (fun j => rl_k l j == 19 && decide (rl_v l j = x))
/-- may node i write to the variable x -/
def rl_asg (l : List pg_N) (A : rl_A) (i : Nat) (x : Int32) : Nat :=
  if (rl_var A x).2.2.2.1 = 1 ∨ ((rl_var A x).2.2.2.2.1 ≠ -1 ∧ rl_area (rl_var A x).2.2.2.2.1 % 3 = 0) then 29
  else if rl_loop l i x = true then 30 else 0
def rl_mean (q : Nat) : Int32 := if q < 9 then nI (100 + q) else nI (q - 9)
/-- a standard function's type of its operands' -/
def rl_std (f : Nat) (a b c : Int32) : Int32 :=
  if f = 0 then rl_wid a a
  else if f = 1 ∨ f = 2 then rl_wid a b
  else if f = 3 then rl_wid (rl_wid a b) c
  else if f = 4 then (if a = 0 then rl_com b c else -1)
  else if f = 5 ∨ f = 6 then (if rl_num a = true ∧ rl_num b = true then a else -1)
  else if f = 7 then 1
  else if f = 8 then 2
  else if rl_num a = true then 0 else -1
def rl_ops (f : Nat) : Nat := if f = 0 ∨ 6 < f then 1 else if f = 3 ∨ f = 4 then 3 else 2
/-- inputs of a block, in their order -/
def rl_ins (b : rl_B) : List Int32 := ((b.2.2.2.2.filter rl_isin).map (fun v => v.2.2.1)).reverse
def rl_call (l : List pg_N) (A : rl_A) (i : Nat) : Nat × rl_A :=
  let cs := rl_c l i
  let x := rl_v l i
  let ty := fun j => if j < cs.length then A.2.1 (cs.getD j 0) else -1
  match rl_fn x with
  | some f =>
    if cs.length ≠ rl_ops f then (25, A)
    else let r := rl_std f (ty 0) (ty 1) (ty 2)
      if r = -1 then (26, A) else (0, rl_me (rl_ty A i r) i (nI (100 + f)))
  | none => match rl_own A.1.tail x with
    | none => (24, A)
    | some (b, y) =>
      if y.1 ≠ 1 then (24, A)
      else if cs.length ≠ rl_nin y then (25, A)
      else if ((cs.zip (rl_ins y)).all (fun p => rl_fits (A.2.1 p.1) p.2)) = false then (26, A)
      else (0, rl_me (rl_ty A i (rl_v l (y.2.2.1 + 1))) i (nI b))
/-- how often a loop goes -/
def rl_tim (a b s : Int) : Int := if s = 0 ∨ (0 < s ∧ b < a) ∨ (s < 0 ∧ a < b) then 0 else Int.tdiv (b - a) s + 1
def rl_for (l : List pg_N) (A : rl_A) (i : Nat) : Nat × rl_A :=
  let cs := rl_c l i
  let x := rl_v l i
  let v := rl_var A x
  let ks := cs.takeWhile (fun c => rl_k l c != 11)
  let st : Int := if ks.length = 3 then (rl_v l (cs.getD 2 0)).toInt else 1
  if rl_srt A x 0 ≠ 0 then (rl_srt A x 0, A)
  else if v.2.2.1 = 0 then (22, A)
  else if rl_asg l A i x ≠ 0 then (rl_asg l A i x, A)
  else if (ks.any (fun c => rl_bad (rl_k l c) (rl_v l c) v.2.2.1)) = true ∨ st = 0 ∨ 1000000 < rl_tim (rl_v l (cs.getD 0 0)).toInt (rl_v l (cs.getD 1 0)).toInt st then (36, A)
  else (0, rl_ce A i (nI v.2.2.2.2.2))
def rl_cells (l : List pg_N) (r : Nat) : Nat := ((rl_c l r).filter (fun c => rl_k l c != 29)).length
def rl_rung (l : List pg_N) (i : Nat) : Nat :=
  if (rl_c l i).length ≤ 12 ∧ ((rl_c l i).all (fun r => decide (rl_cells l r ≤ 12 ∧ rl_cells l r = rl_cells l (i + 1)))) = true then 0 else 38
def rl_par14 (l : List pg_N) (A : rl_A) (i : Nat) : Nat × rl_A :=
  let o := rl_par l i
  let x := rl_v l i
  if rl_srt A (rl_v l o) 2 ≠ 0 then (0, A)
  else let v := rl_var A (rl_v l o)
    match rl_pin A.1 v.2.2.1.toNatClampNeg x with
    | none => (32, A)
    | some (p, t, c) =>
      if p ≠ 1 then (32, A)
      else if ((rl_c l o).takeWhile (fun j => decide (j < i))).any (fun j => decide (rl_v l j = x)) = true then (33, A)
      else if rl_fits (A.2.1 (i + 1)) t = false then (31, A)
      else (0, rl_ce A i (nI (v.2.2.2.2.2 + c)))
/-- the newest variable has this place -/
def rl_atp (x : Int32) : List rl_V → List rl_V
  | [] => []
  | v :: r => (v.1, v.2.1, v.2.2.1, v.2.2.2.1, x, v.2.2.2.2.2) :: r
/-- a node is left -/
def rl_out (l : List pg_N) (A : rl_A) (i : Nat) : Nat × rl_A :=
  let k := rl_k l i
  let x := rl_v l i
  let t1 := A.2.1 (i + 1)
  if k = 0 then (if A.1 = [] ∨ (rl_cur A).1 ≠ 3 then 10 else if 8192 < rl_all A.1 then 42 else 0, A)
  else if k = 1 then (if 8 < rl_nin (rl_cur A) then 44 else 0, A)
  else if k = 4 then (if ((rl_cur A).1 = 3 ∧ x ≠ 0) ∨ ((rl_cur A).1 = 1 ∧ x = 2) then 13 else 0, A)
  else if k = 5 then rl_decl l A i
  else if k = 6 then
    if rl_k l (rl_par l i) = 5 then
      if (rl_find (rl_cur A).2.2.2.2 x).isSome = true ∨ rl_taken A x = true then (12, A)
      else (0, rl_up1 A ((rl_cur A).1, (rl_cur A).2.1, (rl_cur A).2.2.1, (rl_cur A).2.2.2.1, (x, 3, 0, (rl_v l (rl_par l (rl_par l i))).toNatClampNeg, -1, 0) :: (rl_cur A).2.2.2.2))
    else if rl_k l (rl_par l i) = 33 then (0, A)
    else (rl_srt A x 0, rl_ce (rl_ty A i (rl_var A x).2.2.1) i (nI (rl_var A x).2.2.2.2.2))
  else if k = 7 then (if (rl_cur A).1 ≠ 3 ∨ 1 < i - rl_par l i - 1 ∨ ((rl_cur A).2.2.2.2.any (fun v => decide (v.2.2.2.2.1 = x))) = true then 14 else 0, rl_up1 A ((rl_cur A).1, (rl_cur A).2.1, (rl_cur A).2.2.1, (rl_cur A).2.2.2.1, rl_atp x (rl_cur A).2.2.2.2))
  else if k = 8 then (0, rl_ty A i x)
  else if k = 9 then (if (rl_cur A).1 = 1 ∨ rl_k l (i + 1) = 31 ∨ rl_k l (i + 2) = 31 ∨ rl_many l i < 1 ∨ 256 < rl_many l i then 16 else 0, A)
  else if k = 10 then (if (rl_cur A).1 = 1 ∨ rl_inst A.1 x = none then 17 else 0, A)
  else if k = 12 then (if rl_asg l A i (rl_v l (i + 1)) ≠ 0 then rl_asg l A i (rl_v l (i + 1)) else if rl_fits (A.2.1 ((rl_c l i).getD 1 0)) t1 = true then 0 else 31, A)
  else if k = 13 then (rl_srt A x 2, rl_me (rl_ce A i (nI (rl_var A x).2.2.2.2.2)) i (rl_mean (rl_var A x).2.2.1.toNatClampNeg))
  else if k = 14 then rl_par14 l A i
  else if k = 15 then (if ((rl_c l i).all (fun c => rl_k l c == 11 || decide (A.2.1 c = 0))) = true then 0 else 34, A)
  else if k = 16 then (if rl_num t1 = true then 0 else 34, A)
  else if k = 18 then (if rl_k l (i + 1) = 31 ∨ rl_k l ((rl_c l i).getLastD 0) = 31 ∨ rl_v l ((rl_c l i).getLastD 0) < rl_v l (i + 1) then 35 else 0, A)
  else if k = 19 then rl_for l A i
  else if k = 20 then (if ((rl_up l i).any (fun j => rl_k l j == 19)) = true then 0 else 37, A)
  else if k = 22 then (0, rl_tk A 156)
  else if k = 23 then (rl_rung l i, A)
  else if k = 25 then (if t1 = 0 then 0 else 41, A)
  else if k = 28 then (if i + rl_z l i ≠ rl_par l i + rl_z l (rl_par l i) then 39 else if t1 ≠ 0 then 41 else rl_asg l A i (rl_v l (i + 1)), A)
  else if k = 29 then (if rl_par l i + rl_z l (rl_par l i) = rl_par l (rl_par l i) + rl_z l (rl_par l (rl_par l i)) then 40 else 0, A)
  else if k = 30 then (0, rl_ty A i (if x.toInt ≤ 32767 then 1 else 2))
  else if k = 31 then (0, rl_ty A i 0)
  else if k = 32 then (if rl_srt A x 1 ≠ 0 then rl_srt A x 1 else if rl_num t1 = true then 0 else 22, rl_ce (rl_ty A i (rl_var A x).2.2.1) i (nI (rl_var A x).2.2.2.2.2))
  else if k = 33 then
    if rl_srt A x 2 ≠ 0 then (rl_srt A x 2, A)
    else match rl_pin A.1 (rl_var A x).2.2.1.toNatClampNeg (rl_v l (i + 1)) with
      | none => (23, A)
      | some (p, t, c) => if p ≠ 2 then (23, A) else (0, rl_ce (rl_ty A i t) i (nI ((rl_var A x).2.2.2.2.2 + c)))
  else if k = 34 then rl_call l A i
  else if k = 35 then
    let r := if x.toInt ≤ 4 then rl_com t1 (A.2.1 ((rl_c l i).getD 1 0)) else rl_wid t1 (A.2.1 ((rl_c l i).getD 1 0))
    if r = -1 then (27, A) else (0, rl_ty A i (if 3 ≤ x.toInt ∧ x.toInt ≤ 8 then 0 else r))
  else if k = 36 then (if x = 0 ∧ rl_num t1 = false then 28 else 0, rl_ty A i t1)
  else (0, A)
/-- one step of the walk: (the node that is open, the next one), and what is known -/
abbrev rl_W := Option Nat × Nat × rl_A
def rl_end (l : List pg_N) (o : Option Nat) : Nat := match o with | none => l.length | some i => i + rl_z l i
/-- fault, its node, the step's end -/
def rl_step (l : List pg_N) (w : rl_W) : Nat × Nat × rl_W :=
  if w.2.1 < rl_end l w.1 then ((rl_in l w.2.2 w.2.1).1, w.2.1, some w.2.1, w.2.1 + 1, (rl_in l w.2.2 w.2.1).2)
  else match w.1 with
    | none => (0, 0, w)
    | some i => ((rl_out l w.2.2 i).1, i, (rl_up l i).head?, w.2.1, (rl_out l w.2.2 i).2)
def rl_run (l : List pg_N) : Nat → rl_W → Nat × Nat × rl_W
  | 0, w => (0, 0, w)
  | n + 1, w => if (rl_step l w).1 ≠ 0 then rl_step l w else rl_run l n (rl_step l w).2.2
def rl_A0 : rl_A := ([], fun _ => -1, fun _ => -1, fun _ => -1)
/-- all rules of the text: fault, node, what is known -/
def rl_go (l : List pg_N) : Nat × Nat × rl_W := rl_run l (2 * l.length) (none, 0, rl_A0)
