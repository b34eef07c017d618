/-! RULES: switches, all their ways at once -/
def pm_tsok (pc : Nat) (d lo hi : Int) (offs : Array Int) (cs : List (Int32 × Nat)) (dt : Nat) : Bool := decide ((cs.length : Int) = hi - lo + 1) && (List.range cs.length).all (fun j => decide ((cs.getD j (0, 0)).1.toInt = lo + (j : Int)) && decide (offs[j]? = some (((cs.getD j (0, 0)).2 : Int) - (pc : Int)))) && decide ((pc : Int) + d = (dt : Int))
def pm_lsok (pc : Nat) (d : Int) (ps : Array (Int × Int)) (cs : List (Int32 × Nat)) (dt : Nat) : Bool := decide (ps.toList = cs.map (fun q => (q.1.toInt, (q.2 : Int) - (pc : Int)))) && (ps.toList.zip (ps.toList.drop 1)).all (fun (a, next) => a.1 < next.1) && decide ((pc : Int) + d = (dt : Int))
section PMW
variable {Y : pm_Y} {C : pm_C} {o : Nat} {cc : ByteArray} {rt : Option FieldType} {Q : Option Value → pm_S → Prop} {pc n : Nat} {L S : List Value} {σ : pm_S}
theorem wq_tw (cs : List (Int32 × Nat)) (dt : Nat) {d lo hi : Int} {offs : Array Int} {x : Int32} (hd : decode cc pc = .ok (.tableswitch d lo hi offs, n)) (hok : pm_tsok pc d lo hi offs cs dt = true) (kc : ∀ q ∈ cs, x = q.1 → pm_WP Y C o cc rt Q q.2 L S σ) (kd : (∀ q ∈ cs, ¬ x = q.1) → pm_WP Y C o cc rt Q dt L S σ) : pm_WP Y C o cc rt Q pc L (.int x :: S) σ := by
  simp only [pm_tsok, Bool.and_eq_true, decide_eq_true_eq, List.all_eq_true, List.mem_range] at hok
  obtain ⟨⟨h1, h2⟩, h3⟩ := hok
  by_cases hx : x.toInt < lo ∨ hi < x.toInt
  · refine wq_ts dt hd (Or.inl ⟨hx, rfl⟩) h3 (kd (fun q hq e => ?_))
    obtain ⟨j, hj⟩ := List.getElem?_of_mem hq
    have hl := (List.getElem?_eq_some_iff.mp hj).1
    have := (h2 j hl).1
    rw [List.getD_eq_getElem?_getD, hj] at this
    have this : q.1.toInt = lo + (j : Int) := this
    rw [← e] at this
    omega
  · have a1 : lo ≤ x.toInt := by omega
    have a2 : x.toInt ≤ hi := by omega
    obtain ⟨j, hj⟩ : ∃ j : Nat, x.toInt - lo = j := ⟨(x.toInt - lo).toNat, by omega⟩
    have hl : j < cs.length := by omega
    obtain ⟨b1, b2⟩ := h2 j hl
    have hg : cs[j]? = some (cs.getD j (0, 0)) := by rw [List.getD_eq_getElem?_getD, List.getElem?_eq_getElem hl]; rfl
    refine wq_ts (cs.getD j (0, 0)).2 hd (Or.inr ⟨by omega, by omega, by rw [hj]; exact b2⟩) (by omega) (kc _ (List.mem_of_getElem? hg) ?_)
    exact Int32.toInt_inj.mp (by omega)
theorem pm_lso (d : Int) (pc : Nat) (x : Int32) : ∀ cs : List (Int32 × Nat), (∃ q ∈ cs, x = q.1 ∧ Op.lookupswitch.offset (cs.map (fun q => (q.1.toInt, (q.2 : Int) - (pc : Int)))) d x.toInt = (q.2 : Int) - (pc : Int)) ∨ ((∀ q ∈ cs, ¬ x = q.1) ∧ Op.lookupswitch.offset (cs.map (fun q => (q.1.toInt, (q.2 : Int) - (pc : Int)))) d x.toInt = d)
  | [] => Or.inr ⟨fun _ h => absurd h List.not_mem_nil, by simp [Op.lookupswitch.offset]⟩
  | q :: cs => by
    by_cases e : x = q.1
    · refine Or.inl ⟨q, List.mem_cons_self, e, ?_⟩
      rw [List.map_cons, e]
      simp [Op.lookupswitch.offset]
    · have hstep : Op.lookupswitch.offset ((q :: cs).map (fun q => (q.1.toInt, (q.2 : Int) - (pc : Int)))) d x.toInt = Op.lookupswitch.offset (cs.map (fun q => (q.1.toInt, (q.2 : Int) - (pc : Int)))) d x.toInt := by
        rw [List.map_cons]
        exact lv_osw e rfl
      rcases pm_lso d pc x cs with ⟨q', h1, h2, h3⟩ | ⟨h1, h2⟩
      · exact Or.inl ⟨q', List.mem_cons_of_mem _ h1, h2, hstep.trans h3⟩
      · refine Or.inr ⟨fun q' hq' => ?_, hstep.trans h2⟩
        rcases List.mem_cons.mp hq' with rfl | hq'
        · exact e
        · exact h1 q' hq'
theorem wq_lsw (cs : List (Int32 × Nat)) (dt : Nat) {d : Int} {ps : Array (Int × Int)} {x : Int32} (hd : decode cc pc = .ok (.lookupswitch d ps, n)) (hok : pm_lsok pc d ps cs dt = true) (kc : ∀ q ∈ cs, x = q.1 → pm_WP Y C o cc rt Q q.2 L S σ) (kd : (∀ q ∈ cs, ¬ x = q.1) → pm_WP Y C o cc rt Q dt L S σ) : pm_WP Y C o cc rt Q pc L (.int x :: S) σ := by
  simp only [pm_lsok, Bool.and_eq_true, decide_eq_true_eq] at hok
  obtain ⟨⟨h1, h2⟩, h3⟩ := hok
  rcases pm_lso d pc x cs with ⟨q, a1, a2, a3⟩ | ⟨a1, a2⟩
  · exact wq_ls (off := (q.2 : Int) - (pc : Int)) q.2 hd h2 (by rw [h1]; exact a3) (by omega) (kc q a1 a2)
  · exact wq_ls (off := d) dt hd h2 (by rw [h1]; exact a2) h3 (kd a1)
end PMW
