/-! WORDS of the reference -/
theorem lN_bv' (n : Nat) : (lN n).toBitVec = BitVec.ofNat 64 n := rfl
theorem lN_push {v b : Nat} (hv : v < 2 ^ 56) (hb : b < 256) : (lN v <<< ((8 : Int32).toInt64 &&& 63)) ||| lN b = lN (v * 256 + b) := by
  rw [show ((8 : Int32).toInt64 &&& 63) = 8 from by decide]
  apply Int64.toBitVec_inj.mp
  rw [Int64.toBitVec_or, Int64.toBitVec_shiftLeft, lN_bv', lN_bv', lN_bv']
  rw [show ((8 : Int64).toBitVec.smod 64) = 8#64 from by decide]
  apply BitVec.eq_of_toNat_eq
  rw [BitVec.toNat_or]
  have h1 : (BitVec.ofNat 64 v <<< 8#64).toNat = v * 256 := by
    rw [BitVec.shiftLeft_eq', BitVec.toNat_shiftLeft, BitVec.toNat_ofNat, BitVec.toNat_ofNat, Nat.mod_eq_of_lt (by omega : v < 2 ^ 64), Nat.mod_eq_of_lt (by decide : 8 < 2 ^ 64), Nat.shiftLeft_eq]
    exact Nat.mod_eq_of_lt (by omega)
  rw [h1, BitVec.toNat_ofNat, BitVec.toNat_ofNat, Nat.mod_eq_of_lt (by omega : b < 2 ^ 64), Nat.mod_eq_of_lt (by omega : v * 256 + b < 2 ^ 64)]
  have := Nat.shiftLeft_add_eq_or_of_lt (show b < 2 ^ 8 by omega) v
  rw [Nat.shiftLeft_eq] at this
  exact this.symm
/-- letters as a number -/
def rx_pk (l : List Nat) : Nat := l.foldl (fun v b => v * 256 + b) 0
theorem rx_pk_s (l : List Nat) (b : Nat) : rx_pk (l ++ [b]) = rx_pk l * 256 + b := by
  unfold rx_pk
  rw [List.foldl_append]
  rfl
theorem rx_snoc {l : List Nat} (h : l ≠ []) : ∃ l' b, l = l' ++ [b] := ⟨_, _, (List.dropLast_concat_getLast h).symm⟩
theorem rx_pk_lt : ∀ (n : Nat) (l : List Nat), l.length = n → (∀ x ∈ l, x < 256) → rx_pk l < 256 ^ n := by
  intro n
  induction n with
  | zero => intro l hl _; rw [List.eq_nil_of_length_eq_zero hl]; decide
  | succ n ih =>
    intro l hl hx
    obtain ⟨l', b, rfl⟩ := rx_snoc (l := l) (fun z => by rw [z] at hl; cases hl)
    rw [List.length_append, List.length_singleton] at hl
    rw [rx_pk_s]
    have h1 := ih l' (by omega) (fun x hx' => hx x (List.mem_append_left _ hx'))
    have h2 := hx b (List.mem_append_right _ (List.mem_singleton.mpr rfl))
    have h3 : 256 ^ (n + 1) = 256 ^ n * 256 := rfl
    omega
theorem rx_pk_inj : ∀ (n : Nat) (l m : List Nat), l.length = n → (∀ x ∈ l, 1 ≤ x ∧ x < 256) → (∀ x ∈ m, 1 ≤ x ∧ x < 256) → rx_pk l = rx_pk m → l = m := by
  intro n
  induction n with
  | zero =>
    intro l m hl _ hm h
    rw [List.eq_nil_of_length_eq_zero hl] at h ⊢
    by_cases hne : m = []
    · exact hne.symm
    · obtain ⟨m', b, rfl⟩ := rx_snoc hne
      rw [rx_pk_s] at h
      have := (hm b (List.mem_append_right _ (List.mem_singleton.mpr rfl))).1
      have h0 : rx_pk [] = 0 := rfl
      omega
  | succ n ih =>
    intro l m hl hx hm h
    obtain ⟨l', a, rfl⟩ := rx_snoc (l := l) (fun z => by rw [z] at hl; cases hl)
    rw [List.length_append, List.length_singleton] at hl
    have a1 := hx a (List.mem_append_right _ (List.mem_singleton.mpr rfl))
    by_cases hnm : m = []
    · rw [hnm, rx_pk_s] at h
      have h0 : rx_pk [] = 0 := rfl
      omega
    · obtain ⟨m', b, rfl⟩ := rx_snoc hnm
      rw [rx_pk_s, rx_pk_s] at h
      have a2 := hm b (List.mem_append_right _ (List.mem_singleton.mpr rfl))
      have e1 : a = b := by omega
      have e2 : rx_pk l' = rx_pk m' := by omega
      rw [e1, ih l' m' (by omega) (fun x hx' => hx x (List.mem_append_left _ hx')) (fun x hx' => hm x (List.mem_append_left _ hx')) e2]
/-- the first eight letters and the next eight -/
def rx_c1 (w : List Nat) : Nat := rx_pk (w.take 8)
def rx_c2 (w : List Nat) : Nat := rx_pk ((w.drop 8).take 8)
theorem rx_c12 {w v : List Nat} (hw : ∀ x ∈ w, 1 ≤ x ∧ x < 256) (hv : ∀ x ∈ v, 1 ≤ x ∧ x < 256) (h1 : rx_c1 w = rx_c1 v) (h2 : rx_c2 w = rx_c2 v) : w.take 16 = v.take 16 := by
  have e1 := rx_pk_inj _ _ _ rfl (fun x hx => hw x (List.mem_of_mem_take hx)) (fun x hx => hv x (List.mem_of_mem_take hx)) h1
  have e2 := rx_pk_inj _ _ _ rfl (fun x hx => hw x (List.mem_of_mem_drop (List.mem_of_mem_take hx))) (fun x hx => hv x (List.mem_of_mem_drop (List.mem_of_mem_take hx))) h2
  rw [show 16 = 8 + 8 from rfl, List.take_add, List.take_add, e1, e2]
def rx_ws : List (List Nat) := [[70, 85, 78, 67, 84, 73, 79, 78], [69, 78, 68, 95, 70, 85, 78, 67, 84, 73, 79, 78], [70, 85, 78, 67, 84, 73, 79, 78, 95, 66, 76, 79, 67, 75], [69, 78, 68, 95, 70, 85, 78, 67, 84, 73, 79, 78, 95, 66, 76, 79, 67, 75], [80, 82, 79, 71, 82, 65, 77], [69, 78, 68, 95, 80, 82, 79, 71, 82, 65, 77], [86, 65, 82], [86, 65, 82, 95, 73, 78, 80, 85, 84], [86, 65, 82, 95, 79, 85, 84, 80, 85, 84], [69, 78, 68, 95, 86, 65, 82], [65, 84], [66, 79, 79, 76], [73, 78, 84], [68, 73, 78, 84], [65, 82, 82, 65, 89], [79, 70], [73, 70], [84, 72, 69, 78], [69, 76, 83, 73, 70], [69, 76, 83, 69], [69, 78, 68, 95, 73, 70], [67, 65, 83, 69], [69, 78, 68, 95, 67, 65, 83, 69], [70, 79, 82], [84, 79], [66, 89], [68, 79], [69, 78, 68, 95, 70, 79, 82], [69, 88, 73, 84], [82, 69, 84, 85, 82, 78], [79, 82], [88, 79, 82], [65, 78, 68], [77, 79, 68], [78, 79, 84], [84, 82, 85, 69], [70, 65, 76, 83, 69], [76, 65, 68, 68, 69, 82], [69, 78, 68, 95, 76, 65, 68, 68, 69, 82], [82, 85, 78, 71], [69, 78, 68, 95, 82, 85, 78, 71]]
theorem rx_ws_e : lx_ns.take 41 = rx_ws := by unfold lx_ns; decide +kernel
def rx_W (w : Nat) : List Nat := rx_ws.getD w []
theorem rx_W_f : ∀ w, w < 41 → (∀ x ∈ rx_W w, 1 ≤ x ∧ x < 256) ∧ (rx_W w).length ≤ 18 ∧ (w ≠ 3 → (rx_W w).length ≤ 16) ∧ (w = 3 → (rx_W w).length = 18 ∧ (rx_W w).drop 16 = [67, 75]) := by decide +kernel
theorem rx_W_nd : rx_ws.Nodup := by decide +kernel
theorem d216_0 : decode prog_14_method_22_code 0 = .ok (.lconst 0, 1) := by decide +kernel
theorem d216_1 : decode prog_14_method_22_code 1 = .ok (.lstore_n 3, 1) := by decide +kernel
theorem d216_2 : decode prog_14_method_22_code 2 = .ok (.iload_n 1, 1) := by decide +kernel
theorem d216_3 : decode prog_14_method_22_code 3 = .ok (.istore 5, 2) := by decide +kernel
theorem d216_5 : decode prog_14_method_22_code 5 = .ok (.iload 5, 2) := by decide +kernel
theorem d216_7 : decode prog_14_method_22_code 7 = .ok (.iload_n 2, 1) := by decide +kernel
theorem d216_8 : decode prog_14_method_22_code 8 = .ok (.if_icmp .ge 35, 3) := by decide +kernel
theorem d216_11 : decode prog_14_method_22_code 11 = .ok (.iload 5, 2) := by decide +kernel
theorem d216_13 : decode prog_14_method_22_code 13 = .ok (.iload_n 1, 1) := by decide +kernel
theorem d216_14 : decode prog_14_method_22_code 14 = .ok (.bipush 8, 2) := by decide +kernel
theorem d216_16 : decode prog_14_method_22_code 16 = .ok (.iadd, 1) := by decide +kernel
theorem d216_17 : decode prog_14_method_22_code 17 = .ok (.if_icmp .ge 26, 3) := by decide +kernel
theorem d216_20 : decode prog_14_method_22_code 20 = .ok (.lload_n 3, 1) := by decide +kernel
theorem d216_21 : decode prog_14_method_22_code 21 = .ok (.bipush 8, 2) := by decide +kernel
theorem d216_23 : decode prog_14_method_22_code 23 = .ok (.lshl, 1) := by decide +kernel
theorem d216_24 : decode prog_14_method_22_code 24 = .ok (.aload_n 0, 1) := by decide +kernel
theorem d216_25 : decode prog_14_method_22_code 25 = .ok (.getfield 7, 3) := by decide +kernel
theorem d216_28 : decode prog_14_method_22_code 28 = .ok (.iload 5, 2) := by decide +kernel
theorem d216_30 : decode prog_14_method_22_code 30 = .ok (.iaload, 1) := by decide +kernel
theorem d216_31 : decode prog_14_method_22_code 31 = .ok (.invokestatic 124, 3) := by decide +kernel
theorem d216_34 : decode prog_14_method_22_code 34 = .ok (.i2l, 1) := by decide +kernel
theorem d216_35 : decode prog_14_method_22_code 35 = .ok (.lor, 1) := by decide +kernel
theorem d216_36 : decode prog_14_method_22_code 36 = .ok (.lstore_n 3, 1) := by decide +kernel
theorem d216_37 : decode prog_14_method_22_code 37 = .ok (.iinc 5 1, 3) := by decide +kernel
theorem d216_40 : decode prog_14_method_22_code 40 = .ok (.goto (-35), 3) := by decide +kernel
theorem d216_43 : decode prog_14_method_22_code 43 = .ok (.lload_n 3, 1) := by decide +kernel
theorem d216_44 : decode prog_14_method_22_code 44 = .ok (.lreturn, 1) := by decide +kernel
theorem m216 : pm_m 216 = some (⟨"TypeRulesModel", "packed", "(II)J"⟩, prog_14_method_22_code, 6, (some FieldType.long), 10, 2, 11) := rfl
theorem d217_0 : decode prog_14_method_23_code 0 = .ok (.iload_n 0, 1) := by decide +kernel
theorem d217_1 : decode prog_14_method_23_code 1 = .ok (.tableswitch 183 0 20 #[99, 103, 107, 111, 115, 119, 123, 127, 131, 135, 139, 143, 147, 151, 155, 159, 163, 167, 171, 175, 179], 99) := by decide +kernel
theorem d217_100 : decode prog_14_method_23_code 100 = .ok (.ldc2_w 209, 3) := by decide +kernel
theorem d217_103 : decode prog_14_method_23_code 103 = .ok (.lreturn, 1) := by decide +kernel
theorem d217_104 : decode prog_14_method_23_code 104 = .ok (.ldc2_w 211, 3) := by decide +kernel
theorem d217_107 : decode prog_14_method_23_code 107 = .ok (.lreturn, 1) := by decide +kernel
theorem d217_108 : decode prog_14_method_23_code 108 = .ok (.ldc2_w 209, 3) := by decide +kernel
theorem d217_111 : decode prog_14_method_23_code 111 = .ok (.lreturn, 1) := by decide +kernel
theorem d217_112 : decode prog_14_method_23_code 112 = .ok (.ldc2_w 211, 3) := by decide +kernel
theorem d217_115 : decode prog_14_method_23_code 115 = .ok (.lreturn, 1) := by decide +kernel
theorem d217_116 : decode prog_14_method_23_code 116 = .ok (.ldc2_w 213, 3) := by decide +kernel
theorem d217_119 : decode prog_14_method_23_code 119 = .ok (.lreturn, 1) := by decide +kernel
theorem d217_120 : decode prog_14_method_23_code 120 = .ok (.ldc2_w 215, 3) := by decide +kernel
theorem d217_123 : decode prog_14_method_23_code 123 = .ok (.lreturn, 1) := by decide +kernel
theorem d217_124 : decode prog_14_method_23_code 124 = .ok (.ldc2_w 217, 3) := by decide +kernel
theorem d217_127 : decode prog_14_method_23_code 127 = .ok (.lreturn, 1) := by decide +kernel
theorem d217_128 : decode prog_14_method_23_code 128 = .ok (.ldc2_w 219, 3) := by decide +kernel
theorem d217_131 : decode prog_14_method_23_code 131 = .ok (.lreturn, 1) := by decide +kernel
theorem d217_132 : decode prog_14_method_23_code 132 = .ok (.ldc2_w 221, 3) := by decide +kernel
theorem d217_135 : decode prog_14_method_23_code 135 = .ok (.lreturn, 1) := by decide +kernel
theorem d217_136 : decode prog_14_method_23_code 136 = .ok (.ldc2_w 223, 3) := by decide +kernel
theorem d217_139 : decode prog_14_method_23_code 139 = .ok (.lreturn, 1) := by decide +kernel
theorem d217_140 : decode prog_14_method_23_code 140 = .ok (.ldc2_w 225, 3) := by decide +kernel
theorem d217_143 : decode prog_14_method_23_code 143 = .ok (.lreturn, 1) := by decide +kernel
theorem d217_144 : decode prog_14_method_23_code 144 = .ok (.ldc2_w 227, 3) := by decide +kernel
theorem d217_147 : decode prog_14_method_23_code 147 = .ok (.lreturn, 1) := by decide +kernel
theorem d217_148 : decode prog_14_method_23_code 148 = .ok (.ldc2_w 229, 3) := by decide +kernel
theorem d217_151 : decode prog_14_method_23_code 151 = .ok (.lreturn, 1) := by decide +kernel
theorem d217_152 : decode prog_14_method_23_code 152 = .ok (.ldc2_w 231, 3) := by decide +kernel
theorem d217_155 : decode prog_14_method_23_code 155 = .ok (.lreturn, 1) := by decide +kernel
theorem d217_156 : decode prog_14_method_23_code 156 = .ok (.ldc2_w 233, 3) := by decide +kernel
theorem d217_159 : decode prog_14_method_23_code 159 = .ok (.lreturn, 1) := by decide +kernel
theorem d217_160 : decode prog_14_method_23_code 160 = .ok (.ldc2_w 235, 3) := by decide +kernel
theorem d217_163 : decode prog_14_method_23_code 163 = .ok (.lreturn, 1) := by decide +kernel
theorem d217_164 : decode prog_14_method_23_code 164 = .ok (.ldc2_w 237, 3) := by decide +kernel
theorem d217_167 : decode prog_14_method_23_code 167 = .ok (.lreturn, 1) := by decide +kernel
theorem d217_168 : decode prog_14_method_23_code 168 = .ok (.ldc2_w 239, 3) := by decide +kernel
theorem d217_171 : decode prog_14_method_23_code 171 = .ok (.lreturn, 1) := by decide +kernel
theorem d217_172 : decode prog_14_method_23_code 172 = .ok (.ldc2_w 241, 3) := by decide +kernel
theorem d217_175 : decode prog_14_method_23_code 175 = .ok (.lreturn, 1) := by decide +kernel
theorem d217_176 : decode prog_14_method_23_code 176 = .ok (.ldc2_w 243, 3) := by decide +kernel
theorem d217_179 : decode prog_14_method_23_code 179 = .ok (.lreturn, 1) := by decide +kernel
theorem d217_180 : decode prog_14_method_23_code 180 = .ok (.ldc2_w 245, 3) := by decide +kernel
theorem d217_183 : decode prog_14_method_23_code 183 = .ok (.lreturn, 1) := by decide +kernel
theorem d217_184 : decode prog_14_method_23_code 184 = .ok (.iload_n 0, 1) := by decide +kernel
theorem d217_185 : decode prog_14_method_23_code 185 = .ok (.invokestatic 247, 3) := by decide +kernel
theorem d217_188 : decode prog_14_method_23_code 188 = .ok (.lreturn, 1) := by decide +kernel
theorem m217 : pm_m 217 = some (⟨"TypeRulesModel", "wordCode", "(I)J"⟩, prog_14_method_23_code, 1, (some FieldType.long), 10, 1, 0) := rfl
theorem d218_0 : decode prog_14_method_24_code 0 = .ok (.iload_n 0, 1) := by decide +kernel
theorem d218_1 : decode prog_14_method_24_code 1 = .ok (.tableswitch 175 21 40 #[95, 99, 103, 107, 111, 115, 119, 123, 127, 131, 135, 139, 143, 147, 151, 155, 159, 163, 167, 171], 95) := by decide +kernel
theorem d218_96 : decode prog_14_method_24_code 96 = .ok (.ldc2_w 250, 3) := by decide +kernel
theorem d218_99 : decode prog_14_method_24_code 99 = .ok (.lreturn, 1) := by decide +kernel
theorem d218_100 : decode prog_14_method_24_code 100 = .ok (.ldc2_w 252, 3) := by decide +kernel
theorem d218_103 : decode prog_14_method_24_code 103 = .ok (.lreturn, 1) := by decide +kernel
theorem d218_104 : decode prog_14_method_24_code 104 = .ok (.ldc2_w 254, 3) := by decide +kernel
theorem d218_107 : decode prog_14_method_24_code 107 = .ok (.lreturn, 1) := by decide +kernel
theorem d218_108 : decode prog_14_method_24_code 108 = .ok (.ldc2_w 256, 3) := by decide +kernel
theorem d218_111 : decode prog_14_method_24_code 111 = .ok (.lreturn, 1) := by decide +kernel
theorem d218_112 : decode prog_14_method_24_code 112 = .ok (.ldc2_w 258, 3) := by decide +kernel
theorem d218_115 : decode prog_14_method_24_code 115 = .ok (.lreturn, 1) := by decide +kernel
theorem d218_116 : decode prog_14_method_24_code 116 = .ok (.ldc2_w 260, 3) := by decide +kernel
theorem d218_119 : decode prog_14_method_24_code 119 = .ok (.lreturn, 1) := by decide +kernel
theorem d218_120 : decode prog_14_method_24_code 120 = .ok (.ldc2_w 262, 3) := by decide +kernel
theorem d218_123 : decode prog_14_method_24_code 123 = .ok (.lreturn, 1) := by decide +kernel
theorem d218_124 : decode prog_14_method_24_code 124 = .ok (.ldc2_w 264, 3) := by decide +kernel
theorem d218_127 : decode prog_14_method_24_code 127 = .ok (.lreturn, 1) := by decide +kernel
theorem d218_128 : decode prog_14_method_24_code 128 = .ok (.ldc2_w 266, 3) := by decide +kernel
theorem d218_131 : decode prog_14_method_24_code 131 = .ok (.lreturn, 1) := by decide +kernel
theorem d218_132 : decode prog_14_method_24_code 132 = .ok (.ldc2_w 268, 3) := by decide +kernel
theorem d218_135 : decode prog_14_method_24_code 135 = .ok (.lreturn, 1) := by decide +kernel
theorem d218_136 : decode prog_14_method_24_code 136 = .ok (.ldc2_w 270, 3) := by decide +kernel
theorem d218_139 : decode prog_14_method_24_code 139 = .ok (.lreturn, 1) := by decide +kernel
theorem d218_140 : decode prog_14_method_24_code 140 = .ok (.ldc2_w 272, 3) := by decide +kernel
theorem d218_143 : decode prog_14_method_24_code 143 = .ok (.lreturn, 1) := by decide +kernel
theorem d218_144 : decode prog_14_method_24_code 144 = .ok (.ldc2_w 274, 3) := by decide +kernel
theorem d218_147 : decode prog_14_method_24_code 147 = .ok (.lreturn, 1) := by decide +kernel
theorem d218_148 : decode prog_14_method_24_code 148 = .ok (.ldc2_w 276, 3) := by decide +kernel
theorem d218_151 : decode prog_14_method_24_code 151 = .ok (.lreturn, 1) := by decide +kernel
theorem d218_152 : decode prog_14_method_24_code 152 = .ok (.ldc2_w 278, 3) := by decide +kernel
theorem d218_155 : decode prog_14_method_24_code 155 = .ok (.lreturn, 1) := by decide +kernel
theorem d218_156 : decode prog_14_method_24_code 156 = .ok (.ldc2_w 280, 3) := by decide +kernel
theorem d218_159 : decode prog_14_method_24_code 159 = .ok (.lreturn, 1) := by decide +kernel
theorem d218_160 : decode prog_14_method_24_code 160 = .ok (.ldc2_w 282, 3) := by decide +kernel
theorem d218_163 : decode prog_14_method_24_code 163 = .ok (.lreturn, 1) := by decide +kernel
theorem d218_164 : decode prog_14_method_24_code 164 = .ok (.ldc2_w 284, 3) := by decide +kernel
theorem d218_167 : decode prog_14_method_24_code 167 = .ok (.lreturn, 1) := by decide +kernel
theorem d218_168 : decode prog_14_method_24_code 168 = .ok (.ldc2_w 286, 3) := by decide +kernel
theorem d218_171 : decode prog_14_method_24_code 171 = .ok (.lreturn, 1) := by decide +kernel
theorem d218_172 : decode prog_14_method_24_code 172 = .ok (.ldc2_w 288, 3) := by decide +kernel
theorem d218_175 : decode prog_14_method_24_code 175 = .ok (.lreturn, 1) := by decide +kernel
theorem d218_176 : decode prog_14_method_24_code 176 = .ok (.lconst 0, 1) := by decide +kernel
theorem d218_177 : decode prog_14_method_24_code 177 = .ok (.lreturn, 1) := by decide +kernel
theorem m218 : pm_m 218 = some (⟨"TypeRulesModel", "moreCode", "(I)J"⟩, prog_14_method_24_code, 1, (some FieldType.long), 10, 1, 0) := rfl
theorem d219_0 : decode prog_14_method_25_code 0 = .ok (.iload_n 0, 1) := by decide +kernel
theorem d219_1 : decode prog_14_method_25_code 1 = .ok (.lookupswitch 95 #[(1, 67), (2, 71), (3, 75), (5, 79), (7, 83), (8, 87), (38, 91)], 67) := by decide +kernel
theorem d219_68 : decode prog_14_method_25_code 68 = .ok (.ldc2_w 290, 3) := by decide +kernel
theorem d219_71 : decode prog_14_method_25_code 71 = .ok (.lreturn, 1) := by decide +kernel
theorem d219_72 : decode prog_14_method_25_code 72 = .ok (.ldc2_w 292, 3) := by decide +kernel
theorem d219_75 : decode prog_14_method_25_code 75 = .ok (.lreturn, 1) := by decide +kernel
theorem d219_76 : decode prog_14_method_25_code 76 = .ok (.ldc2_w 294, 3) := by decide +kernel
theorem d219_79 : decode prog_14_method_25_code 79 = .ok (.lreturn, 1) := by decide +kernel
theorem d219_80 : decode prog_14_method_25_code 80 = .ok (.ldc2_w 296, 3) := by decide +kernel
theorem d219_83 : decode prog_14_method_25_code 83 = .ok (.lreturn, 1) := by decide +kernel
theorem d219_84 : decode prog_14_method_25_code 84 = .ok (.ldc2_w 298, 3) := by decide +kernel
theorem d219_87 : decode prog_14_method_25_code 87 = .ok (.lreturn, 1) := by decide +kernel
theorem d219_88 : decode prog_14_method_25_code 88 = .ok (.ldc2_w 300, 3) := by decide +kernel
theorem d219_91 : decode prog_14_method_25_code 91 = .ok (.lreturn, 1) := by decide +kernel
theorem d219_92 : decode prog_14_method_25_code 92 = .ok (.ldc2_w 302, 3) := by decide +kernel
theorem d219_95 : decode prog_14_method_25_code 95 = .ok (.lreturn, 1) := by decide +kernel
theorem d219_96 : decode prog_14_method_25_code 96 = .ok (.lconst 0, 1) := by decide +kernel
theorem d219_97 : decode prog_14_method_25_code 97 = .ok (.lreturn, 1) := by decide +kernel
theorem m219 : pm_m 219 = some (⟨"TypeRulesModel", "wordEnd", "(I)J"⟩, prog_14_method_25_code, 1, (some FieldType.long), 10, 1, 0) := rfl
theorem sp218 {Y : pm_Y} {d : Nat} {σ : pm_S} {Q : Option Value → pm_S → Prop} {w : Nat} (hw : 21 ≤ w ∧ w < 41) (hQ : Q (some (.long (lN (rx_c1 (rx_W w))))) σ) : pm_call Y (d + 1) 218 [.int (nI w)] σ Q := by
  refine wq_m m218 (Nat.le_of_ble_eq_true rfl) (by decide) rfl ?_
  refine wq_l 1 d218_0 rfl rfl rfl rfl ?_
  refine wq_tw [(21, 96), (22, 100), (23, 104), (24, 108), (25, 112), (26, 116), (27, 120), (28, 124), (29, 128), (30, 132), (31, 136), (32, 140), (33, 144), (34, 148), (35, 152), (36, 156), (37, 160), (38, 164), (39, 168), (40, 172)] 176 d218_1 (by decide) (List.forall_mem_cons.mpr ⟨fun e1 => ?_, List.forall_mem_cons.mpr ⟨fun e1 => ?_, List.forall_mem_cons.mpr ⟨fun e1 => ?_, List.forall_mem_cons.mpr ⟨fun e1 => ?_, List.forall_mem_cons.mpr ⟨fun e1 => ?_, List.forall_mem_cons.mpr ⟨fun e1 => ?_, List.forall_mem_cons.mpr ⟨fun e1 => ?_, List.forall_mem_cons.mpr ⟨fun e1 => ?_, List.forall_mem_cons.mpr ⟨fun e1 => ?_, List.forall_mem_cons.mpr ⟨fun e1 => ?_, List.forall_mem_cons.mpr ⟨fun e1 => ?_, List.forall_mem_cons.mpr ⟨fun e1 => ?_, List.forall_mem_cons.mpr ⟨fun e1 => ?_, List.forall_mem_cons.mpr ⟨fun e1 => ?_, List.forall_mem_cons.mpr ⟨fun e1 => ?_, List.forall_mem_cons.mpr ⟨fun e1 => ?_, List.forall_mem_cons.mpr ⟨fun e1 => ?_, List.forall_mem_cons.mpr ⟨fun e1 => ?_, List.forall_mem_cons.mpr ⟨fun e1 => ?_, List.forall_mem_cons.mpr ⟨fun e1 => ?_, fun _ h => absurd h List.not_mem_nil⟩⟩⟩⟩⟩⟩⟩⟩⟩⟩⟩⟩⟩⟩⟩⟩⟩⟩⟩⟩) (fun e1 => ?_)
  · -- case 21
    have hk : w = 21 := (nI_eq (by omega) (by omega)).mp e1
    rw [hk, show lN (rx_c1 (rx_W 21)) = 1128354629 from by decide +kernel] at hQ
    refine wq_cl 99 d218_96 rfl rfl ?_
    refine wq_rl d218_99 ?_
    exact hQ
  · -- case 22
    have hk : w = 22 := (nI_eq (by omega) (by omega)).mp e1
    rw [hk, show lN (rx_c1 (rx_W 22)) = 4994004212741395269 from by decide +kernel] at hQ
    refine wq_cl 103 d218_100 rfl rfl ?_
    refine wq_rl d218_103 ?_
    exact hQ
  · -- case 23
    have hk : w = 23 := (nI_eq (by omega) (by omega)).mp e1
    rw [hk, show lN (rx_c1 (rx_W 23)) = 4607826 from by decide +kernel] at hQ
    refine wq_cl 107 d218_104 rfl rfl ?_
    refine wq_rl d218_107 ?_
    exact hQ
  · -- case 24
    have hk : w = 24 := (nI_eq (by omega) (by omega)).mp e1
    rw [hk, show lN (rx_c1 (rx_W 24)) = 21583 from by decide +kernel] at hQ
    refine wq_cl 111 d218_108 rfl rfl ?_
    refine wq_rl d218_111 ?_
    exact hQ
  · -- case 25
    have hk : w = 25 := (nI_eq (by omega) (by omega)).mp e1
    rw [hk, show lN (rx_c1 (rx_W 25)) = 16985 from by decide +kernel] at hQ
    refine wq_cl 115 d218_112 rfl rfl ?_
    refine wq_rl d218_115 ?_
    exact hQ
  · -- case 26
    have hk : w = 26 := (nI_eq (by omega) (by omega)).mp e1
    rw [hk, show lN (rx_c1 (rx_W 26)) = 17487 from by decide +kernel] at hQ
    refine wq_cl 119 d218_116 rfl rfl ?_
    refine wq_rl d218_119 ?_
    exact hQ
  · -- case 27
    have hk : w = 27 := (nI_eq (by omega) (by omega)).mp e1
    rw [hk, show lN (rx_c1 (rx_W 27)) = 19507828956221266 from by decide +kernel] at hQ
    refine wq_cl 123 d218_120 rfl rfl ?_
    refine wq_rl d218_123 ?_
    exact hQ
  · -- case 28
    have hk : w = 28 := (nI_eq (by omega) (by omega)).mp e1
    rw [hk, show lN (rx_c1 (rx_W 28)) = 1163413844 from by decide +kernel] at hQ
    refine wq_cl 127 d218_124 rfl rfl ?_
    refine wq_rl d218_127 ?_
    exact hQ
  · -- case 29
    have hk : w = 29 := (nI_eq (by omega) (by omega)).mp e1
    rw [hk, show lN (rx_c1 (rx_W 29)) = 90457721098830 from by decide +kernel] at hQ
    refine wq_cl 131 d218_128 rfl rfl ?_
    refine wq_rl d218_131 ?_
    exact hQ
  · -- case 30
    have hk : w = 30 := (nI_eq (by omega) (by omega)).mp e1
    rw [hk, show lN (rx_c1 (rx_W 30)) = 20306 from by decide +kernel] at hQ
    refine wq_cl 135 d218_132 rfl rfl ?_
    refine wq_rl d218_135 ?_
    exact hQ
  · -- case 31
    have hk : w = 31 := (nI_eq (by omega) (by omega)).mp e1
    rw [hk, show lN (rx_c1 (rx_W 31)) = 5787474 from by decide +kernel] at hQ
    refine wq_cl 139 d218_136 rfl rfl ?_
    refine wq_rl d218_139 ?_
    exact hQ
  · -- case 32
    have hk : w = 32 := (nI_eq (by omega) (by omega)).mp e1
    rw [hk, show lN (rx_c1 (rx_W 32)) = 4279876 from by decide +kernel] at hQ
    refine wq_cl 143 d218_140 rfl rfl ?_
    refine wq_rl d218_143 ?_
    exact hQ
  · -- case 33
    have hk : w = 33 := (nI_eq (by omega) (by omega)).mp e1
    rw [hk, show lN (rx_c1 (rx_W 33)) = 5066564 from by decide +kernel] at hQ
    refine wq_cl 147 d218_144 rfl rfl ?_
    refine wq_rl d218_147 ?_
    exact hQ
  · -- case 34
    have hk : w = 34 := (nI_eq (by omega) (by omega)).mp e1
    rw [hk, show lN (rx_c1 (rx_W 34)) = 5132116 from by decide +kernel] at hQ
    refine wq_cl 151 d218_148 rfl rfl ?_
    refine wq_rl d218_151 ?_
    exact hQ
  · -- case 35
    have hk : w = 35 := (nI_eq (by omega) (by omega)).mp e1
    rw [hk, show lN (rx_c1 (rx_W 35)) = 1414681925 from by decide +kernel] at hQ
    refine wq_cl 155 d218_152 rfl rfl ?_
    refine wq_rl d218_155 ?_
    exact hQ
  · -- case 36
    have hk : w = 36 := (nI_eq (by omega) (by omega)).mp e1
    rw [hk, show lN (rx_c1 (rx_W 36)) = 301743231813 from by decide +kernel] at hQ
    refine wq_cl 159 d218_156 rfl rfl ?_
    refine wq_rl d218_159 ?_
    exact hQ
  · -- case 37
    have hk : w = 37 := (nI_eq (by omega) (by omega)).mp e1
    rw [hk, show lN (rx_c1 (rx_W 37)) = 83843201910098 from by decide +kernel] at hQ
    refine wq_cl 163 d218_160 rfl rfl ?_
    refine wq_rl d218_163 ?_
    exact hQ
  · -- case 38
    have hk : w = 38 := (nI_eq (by omega) (by omega)).mp e1
    rw [hk, show lN (rx_c1 (rx_W 38)) = 4994004212892386372 from by decide +kernel] at hQ
    refine wq_cl 167 d218_164 rfl rfl ?_
    refine wq_rl d218_167 ?_
    exact hQ
  · -- case 39
    have hk : w = 39 := (nI_eq (by omega) (by omega)).mp e1
    rw [hk, show lN (rx_c1 (rx_W 39)) = 1381322311 from by decide +kernel] at hQ
    refine wq_cl 171 d218_168 rfl rfl ?_
    refine wq_rl d218_171 ?_
    exact hQ
  · -- case 40
    have hk : w = 40 := (nI_eq (by omega) (by omega)).mp e1
    rw [hk, show lN (rx_c1 (rx_W 40)) = 4994004212994362951 from by decide +kernel] at hQ
    refine wq_cl 175 d218_172 rfl rfl ?_
    refine wq_rl d218_175 ?_
    exact hQ
  · -- default
    have w1_21 := e1 (21, 96) (by decide)
    have w1_22 := e1 (22, 100) (by decide)
    have w1_23 := e1 (23, 104) (by decide)
    have w1_24 := e1 (24, 108) (by decide)
    have w1_25 := e1 (25, 112) (by decide)
    have w1_26 := e1 (26, 116) (by decide)
    have w1_27 := e1 (27, 120) (by decide)
    have w1_28 := e1 (28, 124) (by decide)
    have w1_29 := e1 (29, 128) (by decide)
    have w1_30 := e1 (30, 132) (by decide)
    have w1_31 := e1 (31, 136) (by decide)
    have w1_32 := e1 (32, 140) (by decide)
    have w1_33 := e1 (33, 144) (by decide)
    have w1_34 := e1 (34, 148) (by decide)
    have w1_35 := e1 (35, 152) (by decide)
    have w1_36 := e1 (36, 156) (by decide)
    have w1_37 := e1 (37, 160) (by decide)
    have w1_38 := e1 (38, 164) (by decide)
    have w1_39 := e1 (39, 168) (by decide)
    have w1_40 := e1 (40, 172) (by decide)
    exfalso
    have ew := nI_toInt (n := w) (by omega)
    simp only [i_lt, i_le, i_eq, ne_eq, Int32.reduceToInt, b2_0, b2_1, decide_eq_true_eq, decide_eq_false_iff_not, Bool.not_eq_true, Bool.not_eq_false, ew] at *
    omega
theorem sp217 {Y : pm_Y} {d : Nat} {σ : pm_S} {Q : Option Value → pm_S → Prop} {w : Nat} (hw : w < 41) (hQ : Q (some (.long (lN (rx_c1 (rx_W w))))) σ) : pm_call Y (d + 2) 217 [.int (nI w)] σ Q := by
  refine wq_m m217 (Nat.le_of_ble_eq_true rfl) (by decide) rfl ?_
  refine wq_l 1 d217_0 rfl rfl rfl rfl ?_
  refine wq_tw [(0, 100), (1, 104), (2, 108), (3, 112), (4, 116), (5, 120), (6, 124), (7, 128), (8, 132), (9, 136), (10, 140), (11, 144), (12, 148), (13, 152), (14, 156), (15, 160), (16, 164), (17, 168), (18, 172), (19, 176), (20, 180)] 184 d217_1 (by decide) (List.forall_mem_cons.mpr ⟨fun e1 => ?_, List.forall_mem_cons.mpr ⟨fun e1 => ?_, List.forall_mem_cons.mpr ⟨fun e1 => ?_, List.forall_mem_cons.mpr ⟨fun e1 => ?_, List.forall_mem_cons.mpr ⟨fun e1 => ?_, List.forall_mem_cons.mpr ⟨fun e1 => ?_, List.forall_mem_cons.mpr ⟨fun e1 => ?_, List.forall_mem_cons.mpr ⟨fun e1 => ?_, List.forall_mem_cons.mpr ⟨fun e1 => ?_, List.forall_mem_cons.mpr ⟨fun e1 => ?_, List.forall_mem_cons.mpr ⟨fun e1 => ?_, List.forall_mem_cons.mpr ⟨fun e1 => ?_, List.forall_mem_cons.mpr ⟨fun e1 => ?_, List.forall_mem_cons.mpr ⟨fun e1 => ?_, List.forall_mem_cons.mpr ⟨fun e1 => ?_, List.forall_mem_cons.mpr ⟨fun e1 => ?_, List.forall_mem_cons.mpr ⟨fun e1 => ?_, List.forall_mem_cons.mpr ⟨fun e1 => ?_, List.forall_mem_cons.mpr ⟨fun e1 => ?_, List.forall_mem_cons.mpr ⟨fun e1 => ?_, List.forall_mem_cons.mpr ⟨fun e1 => ?_, fun _ h => absurd h List.not_mem_nil⟩⟩⟩⟩⟩⟩⟩⟩⟩⟩⟩⟩⟩⟩⟩⟩⟩⟩⟩⟩⟩) (fun e1 => ?_)
  · -- case 0
    have hk : w = 0 := (nI_eq (by omega) (by omega)).mp e1
    rw [hk, show lN (rx_c1 (rx_W 0)) = 5068043006759227214 from by decide +kernel] at hQ
    refine wq_cl 103 d217_100 rfl rfl ?_
    refine wq_rl d217_103 ?_
    exact hQ
  · -- case 1
    have hk : w = 1 := (nI_eq (by omega) (by omega)).mp e1
    rw [hk, show lN (rx_c1 (rx_W 1)) = 4994004212793036355 from by decide +kernel] at hQ
    refine wq_cl 107 d217_104 rfl rfl ?_
    refine wq_rl d217_107 ?_
    exact hQ
  · -- case 2
    have hk : w = 2 := (nI_eq (by omega) (by omega)).mp e1
    rw [hk, show lN (rx_c1 (rx_W 2)) = 5068043006759227214 from by decide +kernel] at hQ
    refine wq_cl 111 d217_108 rfl rfl ?_
    refine wq_rl d217_111 ?_
    exact hQ
  · -- case 3
    have hk : w = 3 := (nI_eq (by omega) (by omega)).mp e1
    rw [hk, show lN (rx_c1 (rx_W 3)) = 4994004212793036355 from by decide +kernel] at hQ
    refine wq_cl 115 d217_112 rfl rfl ?_
    refine wq_rl d217_115 ?_
    exact hQ
  · -- case 4
    have hk : w = 4 := (nI_eq (by omega) (by omega)).mp e1
    rw [hk, show lN (rx_c1 (rx_W 4)) = 22608498589319501 from by decide +kernel] at hQ
    refine wq_cl 119 d217_116 rfl rfl ?_
    refine wq_rl d217_119 ?_
    exact hQ
  · -- case 5
    have hk : w = 5 := (nI_eq (by omega) (by omega)).mp e1
    rw [hk, show lN (rx_c1 (rx_W 5)) = 4994004212960612167 from by decide +kernel] at hQ
    refine wq_cl 123 d217_120 rfl rfl ?_
    refine wq_rl d217_123 ?_
    exact hQ
  · -- case 6
    have hk : w = 6 := (nI_eq (by omega) (by omega)).mp e1
    rw [hk, show lN (rx_c1 (rx_W 6)) = 5652818 from by decide +kernel] at hQ
    refine wq_cl 127 d217_124 rfl rfl ?_
    refine wq_rl d217_127 ?_
    exact hQ
  · -- case 7
    have hk : w = 7 := (nI_eq (by omega) (by omega)).mp e1
    rw [hk, show lN (rx_c1 (rx_W 7)) = 6215339529953235029 from by decide +kernel] at hQ
    refine wq_cl 131 d217_128 rfl rfl ?_
    refine wq_rl d217_131 ?_
    exact hQ
  · -- case 8
    have hk : w = 8 := (nI_eq (by omega) (by omega)).mp e1
    rw [hk, show lN (rx_c1 (rx_W 8)) = 6215339530054358096 from by decide +kernel] at hQ
    refine wq_cl 135 d217_132 rfl rfl ?_
    refine wq_rl d217_135 ?_
    exact hQ
  · -- case 9
    have hk : w = 9 := (nI_eq (by omega) (by omega)).mp e1
    rw [hk, show lN (rx_c1 (rx_W 9)) = 19507828957266258 from by decide +kernel] at hQ
    refine wq_cl 139 d217_136 rfl rfl ?_
    refine wq_rl d217_139 ?_
    exact hQ
  · -- case 10
    have hk : w = 10 := (nI_eq (by omega) (by omega)).mp e1
    rw [hk, show lN (rx_c1 (rx_W 10)) = 16724 from by decide +kernel] at hQ
    refine wq_cl 143 d217_140 rfl rfl ?_
    refine wq_rl d217_143 ?_
    exact hQ
  · -- case 11
    have hk : w = 11 := (nI_eq (by omega) (by omega)).mp e1
    rw [hk, show lN (rx_c1 (rx_W 11)) = 1112493900 from by decide +kernel] at hQ
    refine wq_cl 147 d217_144 rfl rfl ?_
    refine wq_rl d217_147 ?_
    exact hQ
  · -- case 12
    have hk : w = 12 := (nI_eq (by omega) (by omega)).mp e1
    rw [hk, show lN (rx_c1 (rx_W 12)) = 4804180 from by decide +kernel] at hQ
    refine wq_cl 151 d217_148 rfl rfl ?_
    refine wq_rl d217_151 ?_
    exact hQ
  · -- case 13
    have hk : w = 13 := (nI_eq (by omega) (by omega)).mp e1
    rw [hk, show lN (rx_c1 (rx_W 13)) = 1145654868 from by decide +kernel] at hQ
    refine wq_cl 155 d217_152 rfl rfl ?_
    refine wq_rl d217_155 ?_
    exact hQ
  · -- case 14
    have hk : w = 14 := (nI_eq (by omega) (by omega)).mp e1
    rw [hk, show lN (rx_c1 (rx_W 14)) = 280553996633 from by decide +kernel] at hQ
    refine wq_cl 159 d217_156 rfl rfl ?_
    refine wq_rl d217_159 ?_
    exact hQ
  · -- case 15
    have hk : w = 15 := (nI_eq (by omega) (by omega)).mp e1
    rw [hk, show lN (rx_c1 (rx_W 15)) = 20294 from by decide +kernel] at hQ
    refine wq_cl 163 d217_160 rfl rfl ?_
    refine wq_rl d217_163 ?_
    exact hQ
  · -- case 16
    have hk : w = 16 := (nI_eq (by omega) (by omega)).mp e1
    rw [hk, show lN (rx_c1 (rx_W 16)) = 18758 from by decide +kernel] at hQ
    refine wq_cl 167 d217_164 rfl rfl ?_
    refine wq_rl d217_167 ?_
    exact hQ
  · -- case 17
    have hk : w = 17 := (nI_eq (by omega) (by omega)).mp e1
    rw [hk, show lN (rx_c1 (rx_W 17)) = 1414022478 from by decide +kernel] at hQ
    refine wq_cl 171 d217_168 rfl rfl ?_
    refine wq_rl d217_171 ?_
    exact hQ
  · -- case 18
    have hk : w = 18 := (nI_eq (by omega) (by omega)).mp e1
    rw [hk, show lN (rx_c1 (rx_W 18)) = 297633270086 from by decide +kernel] at hQ
    refine wq_cl 175 d217_172 rfl rfl ?_
    refine wq_rl d217_175 ?_
    exact hQ
  · -- case 19
    have hk : w = 19 := (nI_eq (by omega) (by omega)).mp e1
    rw [hk, show lN (rx_c1 (rx_W 19)) = 1162629957 from by decide +kernel] at hQ
    refine wq_cl 179 d217_176 rfl rfl ?_
    refine wq_rl d217_179 ?_
    exact hQ
  · -- case 20
    have hk : w = 20 := (nI_eq (by omega) (by omega)).mp e1
    rw [hk, show lN (rx_c1 (rx_W 20)) = 76202456860998 from by decide +kernel] at hQ
    refine wq_cl 183 d217_180 rfl rfl ?_
    refine wq_rl d217_183 ?_
    exact hQ
  · -- default
    have w1_0 := e1 (0, 100) (by decide)
    have w1_1 := e1 (1, 104) (by decide)
    have w1_2 := e1 (2, 108) (by decide)
    have w1_3 := e1 (3, 112) (by decide)
    have w1_4 := e1 (4, 116) (by decide)
    have w1_5 := e1 (5, 120) (by decide)
    have w1_6 := e1 (6, 124) (by decide)
    have w1_7 := e1 (7, 128) (by decide)
    have w1_8 := e1 (8, 132) (by decide)
    have w1_9 := e1 (9, 136) (by decide)
    have w1_10 := e1 (10, 140) (by decide)
    have w1_11 := e1 (11, 144) (by decide)
    have w1_12 := e1 (12, 148) (by decide)
    have w1_13 := e1 (13, 152) (by decide)
    have w1_14 := e1 (14, 156) (by decide)
    have w1_15 := e1 (15, 160) (by decide)
    have w1_16 := e1 (16, 164) (by decide)
    have w1_17 := e1 (17, 168) (by decide)
    have w1_18 := e1 (18, 172) (by decide)
    have w1_19 := e1 (19, 176) (by decide)
    have w1_20 := e1 (20, 180) (by decide)
    have h21 : 21 ≤ w := by
      rcases Nat.lt_or_ge w 21 with z | z
      · exfalso
        have ew := nI_toInt (n := w) (by omega)
        simp only [i_lt, i_le, i_eq, ne_eq, Int32.reduceToInt, b2_0, b2_1, decide_eq_true_eq, decide_eq_false_iff_not, Bool.not_eq_true, Bool.not_eq_false, ew] at *
        omega
      · exact z
    refine wq_l 185 d217_184 rfl rfl rfl rfl ?_
    refine wq_vs 188 [_] d217_185 rfl rfl m218 rfl (Nat.le_of_ble_eq_true rfl) rfl (sp218 ⟨h21, hw⟩ ?_)
    exact wq_rl d217_188 hQ
theorem sp219 {Y : pm_Y} {d : Nat} {σ : pm_S} {Q : Option Value → pm_S → Prop} {w : Nat} (hw : w < 41) (hQ : Q (some (.long (lN (rx_c2 (rx_W w))))) σ) : pm_call Y (d + 1) 219 [.int (nI w)] σ Q := by
  refine wq_m m219 (Nat.le_of_ble_eq_true rfl) (by decide) rfl ?_
  refine wq_l 1 d219_0 rfl rfl rfl rfl ?_
  refine wq_lsw [(1, 68), (2, 72), (3, 76), (5, 80), (7, 84), (8, 88), (38, 92)] 96 d219_1 (by decide) (List.forall_mem_cons.mpr ⟨fun e1 => ?_, List.forall_mem_cons.mpr ⟨fun e1 => ?_, List.forall_mem_cons.mpr ⟨fun e1 => ?_, List.forall_mem_cons.mpr ⟨fun e1 => ?_, List.forall_mem_cons.mpr ⟨fun e1 => ?_, List.forall_mem_cons.mpr ⟨fun e1 => ?_, List.forall_mem_cons.mpr ⟨fun e1 => ?_, fun _ h => absurd h List.not_mem_nil⟩⟩⟩⟩⟩⟩⟩) (fun e1 => ?_)
  · -- case 1
    have hk : w = 1 := (nI_eq (by omega) (by omega)).mp e1
    rw [hk, show lN (rx_c2 (rx_W 1)) = 1414090574 from by decide +kernel] at hQ
    refine wq_cl 71 d219_68 rfl rfl ?_
    refine wq_rl d219_71 ?_
    exact hQ
  · -- case 2
    have hk : w = 2 := (nI_eq (by omega) (by omega)).mp e1
    rw [hk, show lN (rx_c2 (rx_W 2)) = 104738352743243 from by decide +kernel] at hQ
    refine wq_cl 75 d219_72 rfl rfl ?_
    refine wq_rl d219_75 ?_
    exact hQ
  · -- case 3
    have hk : w = 3 := (nI_eq (by omega) (by omega)).mp e1
    rw [hk, show lN (rx_c2 (rx_W 3)) = 6073472770510048335 from by decide +kernel] at hQ
    refine wq_cl 79 d219_76 rfl rfl ?_
    refine wq_rl d219_79 ?_
    exact hQ
  · -- case 5
    have hk : w = 5 := (nI_eq (by omega) (by omega)).mp e1
    rw [hk, show lN (rx_c2 (rx_W 5)) = 5390669 from by decide +kernel] at hQ
    refine wq_cl 83 d219_80 rfl rfl ?_
    refine wq_rl d219_83 ?_
    exact hQ
  · -- case 7
    have hk : w = 7 := (nI_eq (by omega) (by omega)).mp e1
    rw [hk, show lN (rx_c2 (rx_W 7)) = 84 from by decide +kernel] at hQ
    refine wq_cl 87 d219_84 rfl rfl ?_
    refine wq_rl d219_87 ?_
    exact hQ
  · -- case 8
    have hk : w = 8 := (nI_eq (by omega) (by omega)).mp e1
    rw [hk, show lN (rx_c2 (rx_W 8)) = 21844 from by decide +kernel] at hQ
    refine wq_cl 91 d219_88 rfl rfl ?_
    refine wq_rl d219_91 ?_
    exact hQ
  · -- case 38
    have hk : w = 38 := (nI_eq (by omega) (by omega)).mp e1
    rw [hk, show lN (rx_c2 (rx_W 38)) = 17746 from by decide +kernel] at hQ
    refine wq_cl 95 d219_92 rfl rfl ?_
    refine wq_rl d219_95 ?_
    exact hQ
  · -- default
    have w1_1 := e1 (1, 68) (by decide)
    have w1_2 := e1 (2, 72) (by decide)
    have w1_3 := e1 (3, 76) (by decide)
    have w1_5 := e1 (5, 80) (by decide)
    have w1_7 := e1 (7, 84) (by decide)
    have w1_8 := e1 (8, 88) (by decide)
    have w1_38 := e1 (38, 92) (by decide)
    have h0 : rx_c2 (rx_W w) = 0 := by
      have hz : ∀ w, w < 41 → (rx_c2 (rx_W w) = 0 ∨ w = 1 ∨ w = 2 ∨ w = 3 ∨ w = 5 ∨ w = 7 ∨ w = 8 ∨ w = 38) := by decide +kernel
      rcases hz w hw with z | z | z | z | z | z | z | z
      · exact z
      · exact absurd (by rw [z]; rfl) w1_1
      · exact absurd (by rw [z]; rfl) w1_2
      · exact absurd (by rw [z]; rfl) w1_3
      · exact absurd (by rw [z]; rfl) w1_5
      · exact absurd (by rw [z]; rfl) w1_7
      · exact absurd (by rw [z]; rfl) w1_8
      · exact absurd (by rw [z]; rfl) w1_38
    rw [h0] at hQ
    refine wq_a 97 d219_96 rfl rfl ?_
    exact wq_rl d219_97 hQ
theorem nt_w_take {t : Nat → Nat} {a e n : Nat} : (nt_w t a e).take n = nt_w t a (min e (a + n)) := by
  unfold nt_w
  rw [← List.map_take, List.take_range]
  congr 2
  omega
theorem nt_w_drop {t : Nat → Nat} {a e n : Nat} : (nt_w t a e).drop n = nt_w t (a + n) e := by
  apply List.ext_getElem?
  intro k
  rw [List.getElem?_drop]
  unfold nt_w
  rw [List.getElem?_map, List.getElem?_map]
  by_cases h : n + k < e - a
  · rw [List.getElem?_range h, List.getElem?_range (by omega), Option.map_some, Option.map_some, Nat.add_assoc]
  · rw [List.getElem?_eq_none (by rw [List.length_range]; omega), List.getElem?_eq_none (by rw [List.length_range]; omega)]
    rfl
theorem nt_w_snoc {t : Nat → Nat} {a k : Nat} (h : a ≤ k) : nt_w t a (k + 1) = nt_w t a k ++ [nm_g (t k)] := by
  unfold nt_w
  rw [show k + 1 - a = (k - a) + 1 by omega, List.range_succ, List.map_append]
  congr 1
  show [nm_g (t (a + (k - a)))] = _
  rw [show a + (k - a) = k by omega]
theorem nm_g256 {b : Nat} (h : b < 256) : nm_g b < 256 := by have := nm_gc b; omega
theorem nt_w_lt {t : Nat → Nat} {a e : Nat} (ht : ∀ i, t i < 256) : ∀ x ∈ nt_w t a e, x < 256 := fun x hx => by
  unfold nt_w at hx
  obtain ⟨k, _, hk⟩ := List.mem_map.mp hx
  rw [← hk]
  exact nm_g256 (ht _)
theorem rx_pk_w {t : Nat → Nat} {a k : Nat} (ht : ∀ i, t i < 256) (h : k ≤ a + 7) (hk : a ≤ k) : rx_pk (nt_w t a k) < 2 ^ 56 := by
  have := rx_pk_lt (k - a) (nt_w t a k) nt_w_len (nt_w_lt ht)
  have h2 : 256 ^ (k - a) ≤ 256 ^ 7 := Nat.pow_le_pow_right (by decide) (by omega)
  have h3 : 256 ^ 7 = 2 ^ 56 := by decide
  omega
theorem rx_pl {d : Nat} {σ : pm_S} {Q : Option Value → pm_S → Prop} {t : Nat → Nat} {M : Nat} {a e p : Nat} (hT : rx_T σ t M) (he : e ≤ M) : ∀ (n k : Nat), k + n = min e (a + 8) → a ≤ k → Q (some (.long (lN (rx_pk (nt_w t a (min e (a + 8))))))) (rs σ p) → pm_WP pm_Y0 (pm_call pm_Y0 (d + 1)) 10 prog_14_method_22_code (some FieldType.long) Q 5 [.ref 10, .int (nI a), .int (nI e), .long (lN (rx_pk (nt_w t a k))), pm_jk, .int (nI k)] [] (rs σ p) := by
  have hM := hT.2.1
  have ht := hT.2.2.2
  intro n
  induction n with
  | zero =>
    intro k hk ha hQ
    have ek := nI_toInt (n := k) (by omega)
    have ee := nI_toInt (n := e) (by omega)
    have e8 := nI_toInt (n := a + 8) (by omega)
    rw [show min e (a + 8) = k by omega] at hQ
    refine wq_l 7 d216_5 rfl rfl rfl rfl ?_
    refine wq_l 8 d216_7 rfl rfl rfl rfl ?_
    refine wq_b 43 11 d216_8 rfl (by decide) rfl (fun c8 => ?_) (fun c8 => ?_)
    · -- pc 43
      refine wq_l 44 d216_43 rfl rfl rfl rfl ?_
      refine wq_rl d216_44 ?_
      exact hQ
    · -- pc 11
      refine wq_l 13 d216_11 rfl rfl rfl rfl ?_
      refine wq_l 14 d216_13 rfl rfl rfl rfl ?_
      refine wq_k 16 8 d216_14 (by decide) rfl ?_
      refine wq_a 17 d216_16 rfl rfl ?_
      rw [show nI a + 8 = nI (a + 8) from nI_add a 8]
      refine wq_b 43 20 d216_17 rfl (by decide) rfl (fun c17 => ?_) (fun c17 => ?_)
      · -- pc 43
        refine wq_l 44 d216_43 rfl rfl rfl rfl ?_
        refine wq_rl d216_44 ?_
        exact hQ
      · -- pc 20
        exfalso
        simp only [i_lt, i_le, i_eq, ne_eq, Int32.reduceToInt, b2_0, b2_1, decide_eq_true_eq, decide_eq_false_iff_not, Bool.not_eq_true, Bool.not_eq_false] at * <;> omega
  | succ n ih =>
    intro k hk ha hQ
    have ek := nI_toInt (n := k) (by omega)
    have ee := nI_toInt (n := e) (by omega)
    have e8 := nI_toInt (n := a + 8) (by omega)
    have hc : (rs σ p).2.2 43 k = nI (t k) := hT.2.2.1 k
    have tk := ht k
    have hg := nm_g256 tk
    have hpk := rx_pk_w ht (show k ≤ a + 7 by omega) ha
    refine wq_l 7 d216_5 rfl rfl rfl rfl ?_
    refine wq_l 8 d216_7 rfl rfl rfl rfl ?_
    refine wq_b 43 11 d216_8 rfl (by decide) rfl (fun c8 => absurd c8 ((by simp only [i_lt, i_le, i_eq, ne_eq, Int32.reduceToInt, b2_0, b2_1, decide_eq_true_eq, decide_eq_false_iff_not, Bool.not_eq_true, Bool.not_eq_false] at * <;> omega))) (fun c8 => ?_)
    refine wq_l 13 d216_11 rfl rfl rfl rfl ?_
    refine wq_l 14 d216_13 rfl rfl rfl rfl ?_
    refine wq_k 16 8 d216_14 (by decide) rfl ?_
    refine wq_a 17 d216_16 rfl rfl ?_
    rw [show nI a + 8 = nI (a + 8) from nI_add a 8]
    refine wq_b 43 20 d216_17 rfl (by decide) rfl (fun c17 => absurd c17 ((by simp only [i_lt, i_le, i_eq, ne_eq, Int32.reduceToInt, b2_0, b2_1, decide_eq_true_eq, decide_eq_false_iff_not, Bool.not_eq_true, Bool.not_eq_false, e8] at * <;> omega))) (fun c17 => ?_)
    refine wq_l 21 d216_20 rfl rfl rfl rfl ?_
    refine wq_k 23 8 d216_21 (by decide) rfl ?_
    refine wq_a 24 d216_23 rfl rfl ?_
    refine wq_l 25 d216_24 rfl rfl rfl rfl ?_
    refine wq_gr (ci := 10) (j := 0) (q := 43) 28 d216_25 rfl rfl rfl rfl ?_
    refine wq_l 30 d216_28 rfl rfl rfl rfl ?_
    refine wq_al 31 d216_30 rfl rfl rfl (vp_in_iff.mpr (by simp only [i_lt, i_le, i_eq, ne_eq, Int32.reduceToInt, b2_0, b2_1, decide_eq_true_eq, decide_eq_false_iff_not, Bool.not_eq_true, Bool.not_eq_false] at * <;> omega)) ?_
    rw [nI_clamp (by omega), hc]
    refine wq_vs 34 [_] d216_31 rfl rfl m211 rfl (Nat.le_of_ble_eq_true rfl) rfl (sp211 ?_)
    rw [rx_gn tk]
    refine wq_a 35 d216_34 rfl rfl ?_
    refine wq_a 36 d216_35 rfl rfl ?_
    rw [nI_l (by omega), lN_push (by omega) hg, ← rx_pk_s, ← nt_w_snoc ha]
    refine wq_s 37 d216_36 rfl rfl (Nat.le_of_ble_eq_true rfl) rfl rfl ?_
    refine wq_i 40 d216_37 rfl rfl rfl ?_
    rw [show nI k + Int32.ofInt 1 = nI (k + 1) from (nI_succ k).symm]
    refine wq_g 5 d216_40 (by decide) ?_
    exact ih (k + 1) (by omega) (by omega) hQ
theorem sp216 {d : Nat} {σ : pm_S} {Q : Option Value → pm_S → Prop} {t : Nat → Nat} {M : Nat} {a e p : Nat} (hT : rx_T σ t M) (he : e ≤ M) (ha : a ≤ e) (hQ : Q (some (.long (lN (rx_c1 (nt_w t a e))))) (rs σ p)) : pm_call pm_Y0 (d + 2) 216 [.ref 10, .int (nI a), .int (nI e)] (rs σ p) Q := by
  unfold rx_c1 at hQ
  rw [nt_w_take] at hQ
  have e0 : nt_w t a a = [] := by unfold nt_w; rw [Nat.sub_self]; rfl
  refine wq_m m216 (Nat.le_of_ble_eq_true rfl) (by decide) rfl ?_
  refine wq_a 1 d216_0 rfl rfl ?_
  refine wq_s 2 d216_1 rfl rfl (Nat.le_of_ble_eq_true rfl) rfl rfl ?_
  refine wq_l 3 d216_2 rfl rfl rfl rfl ?_
  refine wq_s 5 d216_3 rfl rfl (Nat.le_of_ble_eq_true rfl) rfl rfl ?_
  have := rx_pl (d := d) (Q := Q) (p := p) hT he (min e (a + 8) - a) a (by omega) (Nat.le_refl _) hQ
  rw [e0] at this
  exact this
