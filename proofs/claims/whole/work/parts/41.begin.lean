/-! THE START: both objects made, their cells in the layout's order -/
def ws_σ (σN : pm_S) : pm_S := (fun k j => if k = 0 ∧ j = 8 then (-1) else if k = 1 ∧ j = 4 then (σN.1 0 4) else if k = 2 ∧ j = 10 then 46 else if k = 7 ∧ j = 7 then (-1) else if k = 10 ∧ j = 52 then (-1) else 0, fun _ _ => 0, fun k => if k = 12 then σN.2.2 1 else if k = 13 then σN.2.2 2 else if k = 14 then σN.2.2 3 else if k = 15 then σN.2.2 4 else fun _ => 0)
def ws_B (ad : Nat → Nat) (cA : Nat → ClassId) (σN : pm_S) : va_W := [(ad 0, .inr (0, [.ref (ad 11), .ref (ad 2), .ref (ad 3), .ref (ad 4), .ref (ad 5), .ref (ad 7), .int 0, .int 0, .int (-1), .int 0, .int 0, .int 0])),
  (ad 1, .inr (1, [.ref (ad 12), .ref (ad 13), .ref (ad 14), .ref (ad 15), .int (σN.1 0 4)])),
  (ad 2, .inr (2, [.ref (ad 11), .ref (ad 1), .ref (ad 16), .ref (ad 17), .ref (ad 18), .int 0, .int 0, .int 0, .long 0, .int 0, .int 46])),
  (ad 3, .inr (3, [.ref (ad 19), .ref (ad 20), .ref (ad 21), .ref (ad 22), .ref (ad 23), .ref (ad 24), .ref (ad 25), .ref (ad 26), .int 0])),
  (ad 4, .inr (4, [.ref (ad 2), .ref (ad 3), .int 0, .int 0])),
  (ad 5, .inr (5, [.ref (ad 6), .ref (ad 27), .ref (ad 28), .ref (ad 29), .ref (ad 30), .ref (ad 31), .ref (ad 32), .ref (ad 33), .int 0, .int 0, .int 0])),
  (ad 6, .inr (6, [.ref (ad 34), .ref (ad 35), .ref (ad 36), .ref (ad 37), .ref (ad 38), .ref (ad 39), .ref (ad 40), .ref (ad 41), .int 0])),
  (ad 7, .inr (7, [.ref (ad 3), .ref (ad 1), .ref (ad 5), .ref (ad 6), .ref (ad 8), .ref (ad 9), .ref (ad 42), .int (-1)])),
  (ad 8, .inr (8, [.ref (ad 3), .ref (ad 5), .ref (ad 6)])),
  (ad 9, .inr (9, [.ref (ad 3), .ref (ad 5), .ref (ad 6)])),
  (ad 10, .inr (10, [.ref (ad 43), .int 0, .int 0, .int 0, .int 0, .int 0, .int 0, .int 0, .int 0, .int 0, .ref (ad 44), .ref (ad 45), .ref (ad 46), .ref (ad 47), .ref (ad 48), .int 0, .ref (ad 49), .ref (ad 50), .ref (ad 51), .ref (ad 52), .ref (ad 53), .ref (ad 54), .ref (ad 55), .ref (ad 56), .ref (ad 57), .ref (ad 58), .ref (ad 59), .int 0, .ref (ad 60), .int 0, .int 0, .ref (ad 61), .ref (ad 62), .ref (ad 63), .int 0, .int 0, .ref (ad 64), .ref (ad 65), .ref (ad 66), .ref (ad 67), .ref (ad 68), .int 0, .ref (ad 69), .ref (ad 70), .ref (ad 71), .ref (ad 72), .ref (ad 73), .ref (ad 74), .int 0, .int 0, .int 0, .int 0, .int (-1), .ref (ad 75), .int 0])),
  (ad 11, .inl (cA 1, cg_z 1 8192)),
  (ad 12, .inl (cA 1, 8704, .inl (σN.2.2 1))),
  (ad 13, .inl (cA 0, 4172, .inl (σN.2.2 2))),
  (ad 14, .inl (cA 0, 1024, .inl (σN.2.2 3))),
  (ad 15, .inl (cA 0, 4171, .inl (σN.2.2 4))),
  (ad 16, .inl (cA 0, cg_z 0 8193)),
  (ad 17, .inl (cA 0, cg_z 0 8193)),
  (ad 18, .inl (cA 0, cg_z 0 8193)),
  (ad 19, .inl (cA 0, cg_z 0 16386)),
  (ad 20, .inl (cA 0, cg_z 0 16386)),
  (ad 21, .inl (cA 0, cg_z 0 16386)),
  (ad 22, .inl (cA 0, cg_z 0 16386)),
  (ad 23, .inl (cA 0, cg_z 0 16386)),
  (ad 24, .inl (cA 0, cg_z 0 16386)),
  (ad 25, .inl (cA 0, cg_z 0 16386)),
  (ad 26, .inl (cA 0, cg_z 0 16386)),
  (ad 27, .inl (cA 0, cg_z 0 4171)),
  (ad 28, .inl (cA 0, cg_z 0 418)),
  (ad 29, .inl (cA 0, cg_z 0 418)),
  (ad 30, .inl (cA 0, cg_z 0 418)),
  (ad 31, .inl (cA 0, cg_z 0 418)),
  (ad 32, .inl (cA 0, cg_z 0 418)),
  (ad 33, .inl (cA 0, cg_z 0 3344)),
  (ad 34, .inl (cA 0, cg_z 0 4171)),
  (ad 35, .inl (cA 0, cg_z 0 4128)),
  (ad 36, .inl (cA 0, cg_z 0 4128)),
  (ad 37, .inl (cA 0, cg_z 0 4128)),
  (ad 38, .inl (cA 0, cg_z 0 4128)),
  (ad 39, .inl (cA 0, cg_z 0 4128)),
  (ad 40, .inl (cA 0, cg_z 0 4128)),
  (ad 41, .inl (cA 2, cg_z 2 4128)),
  (ad 42, .inl (cA 0, cg_z 0 960)),
  (ad 43, .inl (cA 0, cg_z 0 8192)),
  (ad 44, .inl (cA 0, cg_z 0 4200)),
  (ad 45, .inl (cA 0, cg_z 0 4200)),
  (ad 46, .inl (cA 0, cg_z 0 4200)),
  (ad 47, .inl (cA 3, cg_z 3 4200)),
  (ad 48, .inl (cA 0, cg_z 0 4096)),
  (ad 49, .inl (cA 0, cg_z 0 20000)),
  (ad 50, .inl (cA 0, cg_z 0 20000)),
  (ad 51, .inl (cA 0, cg_z 0 20000)),
  (ad 52, .inl (cA 0, cg_z 0 20000)),
  (ad 53, .inl (cA 0, cg_z 0 20000)),
  (ad 54, .inl (cA 0, cg_z 0 20000)),
  (ad 55, .inl (cA 0, cg_z 0 20000)),
  (ad 56, .inl (cA 0, cg_z 0 20000)),
  (ad 57, .inl (cA 0, cg_z 0 20000)),
  (ad 58, .inl (cA 0, cg_z 0 20000)),
  (ad 59, .inl (cA 0, cg_z 0 400)),
  (ad 60, .inl (cA 0, cg_z 0 400)),
  (ad 61, .inl (cA 0, cg_z 0 70)),
  (ad 62, .inl (cA 0, cg_z 0 70)),
  (ad 63, .inl (cA 0, cg_z 0 70)),
  (ad 64, .inl (cA 0, cg_z 0 800)),
  (ad 65, .inl (cA 0, cg_z 0 800)),
  (ad 66, .inl (cA 0, cg_z 0 800)),
  (ad 67, .inl (cA 0, cg_z 0 800)),
  (ad 68, .inl (cA 0, cg_z 0 800)),
  (ad 69, .inl (cA 0, cg_z 0 5000)),
  (ad 70, .inl (cA 0, cg_z 0 5000)),
  (ad 71, .inl (cA 0, cg_z 0 5000)),
  (ad 72, .inl (cA 0, cg_z 0 5000)),
  (ad 73, .inl (cA 0, cg_z 0 5000)),
  (ad 74, .inl (cA 0, cg_z 0 5000)),
  (ad 75, .inl (cA 0, cg_z 0 20000))]
def ws_mp {α β : Type} (f : Nat → α → β) : Nat → List α → List β
  | _, [] => []
  | n, x :: l => f n x :: ws_mp f (n + 1) l
theorem ws_mp_at {α β : Type} (f : Nat → α → β) : ∀ (l : List α) (n i : Nat), (ws_mp f n l)[i]? = l[i]?.map (f (n + i))
  | [], n, i => by simp [ws_mp]
  | x :: l, n, 0 => by simp [ws_mp]
  | x :: l, n, i + 1 => by
    simp only [ws_mp, List.getElem?_cons_succ]
    rw [ws_mp_at f l (n + 1) i, show n + 1 + i = n + (i + 1) by omega]
theorem ws_mp_eq {α β : Type} (f : Nat → α → β) (l : List α) : l.mapIdx f = ws_mp f 0 l := by
  apply List.ext_getElem?
  intro i
  rw [ws_mp_at, List.getElem?_mapIdx, Nat.zero_add]
def ws_cell (ad : Nat → Nat) (cA : Nat → ClassId) (σ : pm_S) (k : Nat) (c : (Nat × Nat) ⊕ (Nat × List Nat)) : va_E := match c with
  | .inl (t, n) => .inl (cA t, n, if t = 3 then .inr (.inl (σ.2.1 k)) else .inl (σ.2.2 k))
  | .inr (ci, fl) => .inr (ci, ws_mp (fun j f => pm_fv ad σ k j f) 0 fl)
theorem pm_cell_eq (ad : Nat → Nat) (cA : Nat → ClassId) (σ : pm_S) (k : Nat) (c : (Nat × Nat) ⊕ (Nat × List Nat)) : pm_cell ad cA σ k c = ws_cell ad cA σ k c := by
  match c with
  | .inl (t, n) => rfl
  | .inr (ci, fl) =>
    show (Sum.inr (ci, fl.mapIdx (fun j f => pm_fv ad σ k j f)) : va_E) = _
    rw [ws_mp_eq]
    rfl
theorem ws_B_eq (ad : Nat → Nat) (cA : Nat → ClassId) (σN : pm_S) : ws_B ad cA σN = pm_wd ad cA pm_Y0 (ws_σ σN) := by
  unfold pm_wd
  rw [ws_mp_eq]
  simp only [pm_cell_eq]
  rfl
theorem ws_start {p : Program} {e : Env} {s : State} {m : MethodId} {below : List Frame} {meth : Method} {c : Code} (l : Launch) {b L : Nat} {xs : Nat → Int32} (hL : L ≤ 3072) (C0 : lw_At p s m meth c b L xs) {J : pm_S → Prop} (hJ : ∀ σ τ, iv_same σ τ → J σ → J τ) (hj : ∀ σ, iv_Inv J σ → iv_Step J 1000 5 200 [] σ) (h0 : ∀ σN, nt_I σN 0 1 2 3 4 (nl_N 8) → iv_Inv J (ws_σ σN)) : W p l e room_1 s m #[Value.ref b] below meth c s.heap [] 0 0 (lw_Z below #[Value.ref b] s) (entryFrame m ([Value.ref b] : List Value).toArray 4) := by
  obtain ⟨hx, hb, hr, hml, hown, hts, hX, hbl, hlocks, hgv⟩ := id C0
  have htb := pm_tb_hts hts
  have hA : ∀ q : Nat, s.heap.size ≤ q → (fun q : Nat => s.heap.size ≤ q) q := fun _ h => h
  obtain ⟨sd, hXs, hsb⟩ := ws_X (A := fun q : Nat => s.heap.size ≤ q) hgv hts (fun a ha => Nat.not_le.mpr ha)
  obtain ⟨D, cA, hK⟩ := ws_K htb
  have cx : cg_Cx sd False p room_1 s m #[Value.ref b] meth c D cA (fun q : Nat => s.heap.size ≤ q) 12 code 4 := ⟨hx, hb, hml, hown, htb, hK, hA, fun h => h.elim, hXs⟩
  have hP0 : va_P D pm_cl [] s.heap := fun k q h => by simp at h
  have hD0 : va_D (fun q : Nat => s.heap.size ≤ q) [] := ⟨fun i j p q h => by simp at h, fun k q h => by simp at h⟩
  have hl := lv_entry ([.ref b]) (n := 4) (Nat.le_of_ble_eq_true rfl)
  rw [lg_entry_eq]
  refine (show cg_Go p l e room_1 s m #[Value.ref b] below meth c (lw_Z below #[Value.ref b] s) D (fun q : Nat => s.heap.size ≤ q) 4 0 0 [] 0 (pm_en 4 [.ref b]) [] from ?_) (pm_en_len (Nat.le_of_ble_eq_true rfl)) s.heap [] _ hP0 hD0 va_S.rf (pm_en_lh (Nat.le_of_ble_eq_true rfl) (by rw [cg_map]; exact hl))
  refine cg_nw cx 3 (ci := 0) (fs := [.null, .null, .null, .null, .null, .null, .int 0, .int 0, .int 0, .int 0, .int 0, .int 0]) (pm_at_tb (h := 12020) rfl rfl) (pm_at_tb (h := 12021) rfl rfl) (pm_at_tb (h := 12001) rfl rfl) rfl (fun j hj => by rcases (show j = 0 ∨ j = 1 ∨ j = 2 ∨ j = 3 ∨ j = 4 ∨ j = 5 ∨ j = 6 ∨ j = 7 ∨ j = 8 ∨ j = 9 ∨ j = 10 ∨ j = 11 by omega) with rfl | rfl | rfl | rfl | rfl | rfl | rfl | rfl | rfl | rfl | rfl | rfl <;> rfl) dl_0 ⟨Nat.le_of_ble_eq_true rfl, Nat.le_of_ble_eq_true rfl⟩ rfl (fun a0 => ?_)
  refine cg_a cx 4 dl_3 rfl rfl ?_
  refine cg_ck cx 7 [0] [] (wr := []) (b := a0) [] m0 rfl (fun sz => cc0 l sd D cA a0 sz) rfl rfl (by decide) (by decide) (by decide) (pm_at_tb (h := 12022) rfl rfl) (pm_at_tb (h := 12023) rfl rfl) (pm_at_tb (h := 12001) rfl rfl) ⟨rfl, rfl⟩ dl_4 rfl rfl (Nat.le_of_ble_eq_true rfl) ⟨Nat.le_of_ble_eq_true rfl, Nat.le_of_ble_eq_true rfl⟩ ⟨Nat.le_of_ble_eq_true rfl, Nat.le_of_ble_eq_true rfl⟩ rfl (fun w w1 hp => ?_)
  obtain ⟨rfl, u, σN, hu, hI, rfl⟩ := hp
  refine cg_s cx 8 dl_7 rfl rfl (Nat.le_of_ble_eq_true rfl) rfl rfl ?_
  refine cg_nw cx 11 (ci := 10) (fs := [.null, .int 0, .int 0, .int 0, .int 0, .int 0, .int 0, .int 0, .int 0, .int 0, .null, .null, .null, .null, .null, .int 0, .null, .null, .null, .null, .null, .null, .null, .null, .null, .null, .null, .int 0, .null, .int 0, .int 0, .null, .null, .null, .int 0, .int 0, .null, .null, .null, .null, .null, .int 0, .null, .null, .null, .null, .null, .null, .int 0, .int 0, .int 0, .int 0, .int 0, .null, .int 0]) (pm_at_tb (h := 17048) rfl rfl) (pm_at_tb (h := 17049) rfl rfl) (pm_at_tb (h := 12017) rfl rfl) rfl (fun j hj => by rcases (show j = 0 ∨ j = 1 ∨ j = 2 ∨ j = 3 ∨ j = 4 ∨ j = 5 ∨ j = 6 ∨ j = 7 ∨ j = 8 ∨ j = 9 ∨ j = 10 ∨ j = 11 ∨ j = 12 ∨ j = 13 ∨ j = 14 ∨ j = 15 ∨ j = 16 ∨ j = 17 ∨ j = 18 ∨ j = 19 ∨ j = 20 ∨ j = 21 ∨ j = 22 ∨ j = 23 ∨ j = 24 ∨ j = 25 ∨ j = 26 ∨ j = 27 ∨ j = 28 ∨ j = 29 ∨ j = 30 ∨ j = 31 ∨ j = 32 ∨ j = 33 ∨ j = 34 ∨ j = 35 ∨ j = 36 ∨ j = 37 ∨ j = 38 ∨ j = 39 ∨ j = 40 ∨ j = 41 ∨ j = 42 ∨ j = 43 ∨ j = 44 ∨ j = 45 ∨ j = 46 ∨ j = 47 ∨ j = 48 ∨ j = 49 ∨ j = 50 ∨ j = 51 ∨ j = 52 ∨ j = 53 ∨ j = 54 by omega) with rfl | rfl | rfl | rfl | rfl | rfl | rfl | rfl | rfl | rfl | rfl | rfl | rfl | rfl | rfl | rfl | rfl | rfl | rfl | rfl | rfl | rfl | rfl | rfl | rfl | rfl | rfl | rfl | rfl | rfl | rfl | rfl | rfl | rfl | rfl | rfl | rfl | rfl | rfl | rfl | rfl | rfl | rfl | rfl | rfl | rfl | rfl | rfl | rfl | rfl | rfl | rfl | rfl | rfl | rfl <;> rfl) dl_8 ⟨Nat.le_of_ble_eq_true rfl, Nat.le_of_ble_eq_true rfl⟩ rfl (fun a1 => ?_)
  refine cg_a cx 12 dl_11 rfl rfl ?_
  refine cg_ci cx 15 [42] [0, 1, 2, 3, 4, 5, 6, 7, 8, 9, 10, 11, 12, 13, 14, 15, 16, 17, 18, 19, 20, 21, 22, 23, 24, 25, 26, 27, 28, 29, 30, 31, 32, 33, 34, 35, 36, 37, 38, 39, 40, 41] (wr := ct_W cA a0 u σN) [] m195 rfl (fun sz => cc195 l sd D cA a1 sz) rfl rfl (by decide) (by decide) (by decide) (pm_at_tb (h := 17050) rfl rfl) (pm_at_tb (h := 17051) rfl rfl) (pm_at_tb (h := 12017) rfl rfl) ⟨rfl, rfl⟩ dl_12 rfl rfl (Nat.le_of_ble_eq_true rfl) ⟨Nat.le_of_ble_eq_true rfl, Nat.le_of_ble_eq_true rfl⟩ ⟨Nat.le_of_ble_eq_true rfl, Nat.le_of_ble_eq_true rfl⟩ rfl (fun v hv => ?_)
  refine cg_s cx 16 dl_15 rfl rfl (Nat.le_of_ble_eq_true rfl) rfl rfl ?_
  refine cg_k cx 17 0 dl_16 (by decide) rfl ?_
  refine cg_s cx 18 dl_17 rfl rfl (Nat.le_of_ble_eq_true rfl) rfl rfl ?_
  refine cg_perm [0, 2, 7, 11, 20, 40, 21, 37, 38, 39, 42, 1, 3, 4, 5, 6, 8, 9, 10, 12, 13, 14, 15, 16, 17, 18, 19, 30, 31, 32, 33, 34, 35, 36, 22, 23, 24, 25, 26, 27, 28, 29, 41, 43, 44, 45, 46, 47, 48, 49, 50, 51, 52, 53, 54, 55, 56, 57, 58, 59, 60, 61, 62, 63, 64, 65, 66, 67, 68, 69, 70, 71, 72, 73, 74, 75] (ws' := ws_B (ad_L [a0, (u.getD 1 0), (u.getD 6 0), (u.getD 10 0), (u.getD 19 0), (u.getD 20 0), (u.getD 21 0), (u.getD 37 0), (u.getD 38 0), (u.getD 39 0), a1, (u.getD 0 0), (u.getD 2 0), (u.getD 3 0), (u.getD 4 0), (u.getD 5 0), (u.getD 7 0), (u.getD 8 0), (u.getD 9 0), (u.getD 11 0), (u.getD 12 0), (u.getD 13 0), (u.getD 14 0), (u.getD 15 0), (u.getD 16 0), (u.getD 17 0), (u.getD 18 0), (u.getD 30 0), (u.getD 31 0), (u.getD 32 0), (u.getD 33 0), (u.getD 34 0), (u.getD 35 0), (u.getD 36 0), (u.getD 22 0), (u.getD 23 0), (u.getD 24 0), (u.getD 25 0), (u.getD 26 0), (u.getD 27 0), (u.getD 28 0), (u.getD 29 0), (u.getD 40 0), (v.getD 0 0), (v.getD 1 0), (v.getD 2 0), (v.getD 3 0), (v.getD 4 0), (v.getD 5 0), (v.getD 6 0), (v.getD 7 0), (v.getD 8 0), (v.getD 9 0), (v.getD 10 0), (v.getD 11 0), (v.getD 12 0), (v.getD 13 0), (v.getD 14 0), (v.getD 15 0), (v.getD 16 0), (v.getD 17 0), (v.getD 18 0), (v.getD 19 0), (v.getD 20 0), (v.getD 21 0), (v.getD 22 0), (v.getD 23 0), (v.getD 24 0), (v.getD 25 0), (v.getD 26 0), (v.getD 27 0), (v.getD 28 0), (v.getD 29 0), (v.getD 30 0), (v.getD 31 0), (v.getD 32 0)] sd) cA σN) (by decide) rfl ?_
  rw [ws_B_eq]
  have hX2 : pm_X (ad_L [a0, (u.getD 1 0), (u.getD 6 0), (u.getD 10 0), (u.getD 19 0), (u.getD 20 0), (u.getD 21 0), (u.getD 37 0), (u.getD 38 0), (u.getD 39 0), a1, (u.getD 0 0), (u.getD 2 0), (u.getD 3 0), (u.getD 4 0), (u.getD 5 0), (u.getD 7 0), (u.getD 8 0), (u.getD 9 0), (u.getD 11 0), (u.getD 12 0), (u.getD 13 0), (u.getD 14 0), (u.getD 15 0), (u.getD 16 0), (u.getD 17 0), (u.getD 18 0), (u.getD 30 0), (u.getD 31 0), (u.getD 32 0), (u.getD 33 0), (u.getD 34 0), (u.getD 35 0), (u.getD 36 0), (u.getD 22 0), (u.getD 23 0), (u.getD 24 0), (u.getD 25 0), (u.getD 26 0), (u.getD 27 0), (u.getD 28 0), (u.getD 29 0), (u.getD 40 0), (v.getD 0 0), (v.getD 1 0), (v.getD 2 0), (v.getD 3 0), (v.getD 4 0), (v.getD 5 0), (v.getD 6 0), (v.getD 7 0), (v.getD 8 0), (v.getD 9 0), (v.getD 10 0), (v.getD 11 0), (v.getD 12 0), (v.getD 13 0), (v.getD 14 0), (v.getD 15 0), (v.getD 16 0), (v.getD 17 0), (v.getD 18 0), (v.getD 19 0), (v.getD 20 0), (v.getD 21 0), (v.getD 22 0), (v.getD 23 0), (v.getD 24 0), (v.getD 25 0), (v.getD 26 0), (v.getD 27 0), (v.getD 28 0), (v.getD 29 0), (v.getD 30 0), (v.getD 31 0), (v.getD 32 0)] sd) (fun q : Nat => s.heap.size ≤ q) s s.heap := pm_X_ad ad_L_s hXs
  have e2 : ad_L [a0, (u.getD 1 0), (u.getD 6 0), (u.getD 10 0), (u.getD 19 0), (u.getD 20 0), (u.getD 21 0), (u.getD 37 0), (u.getD 38 0), (u.getD 39 0), a1, (u.getD 0 0), (u.getD 2 0), (u.getD 3 0), (u.getD 4 0), (u.getD 5 0), (u.getD 7 0), (u.getD 8 0), (u.getD 9 0), (u.getD 11 0), (u.getD 12 0), (u.getD 13 0), (u.getD 14 0), (u.getD 15 0), (u.getD 16 0), (u.getD 17 0), (u.getD 18 0), (u.getD 30 0), (u.getD 31 0), (u.getD 32 0), (u.getD 33 0), (u.getD 34 0), (u.getD 35 0), (u.getD 36 0), (u.getD 22 0), (u.getD 23 0), (u.getD 24 0), (u.getD 25 0), (u.getD 26 0), (u.getD 27 0), (u.getD 28 0), (u.getD 29 0), (u.getD 40 0), (v.getD 0 0), (v.getD 1 0), (v.getD 2 0), (v.getD 3 0), (v.getD 4 0), (v.getD 5 0), (v.getD 6 0), (v.getD 7 0), (v.getD 8 0), (v.getD 9 0), (v.getD 10 0), (v.getD 11 0), (v.getD 12 0), (v.getD 13 0), (v.getD 14 0), (v.getD 15 0), (v.getD 16 0), (v.getD 17 0), (v.getD 18 0), (v.getD 19 0), (v.getD 20 0), (v.getD 21 0), (v.getD 22 0), (v.getD 23 0), (v.getD 24 0), (v.getD 25 0), (v.getD 26 0), (v.getD 27 0), (v.getD 28 0), (v.getD 29 0), (v.getD 30 0), (v.getD 31 0), (v.getD 32 0)] sd 2000 = b := (ad_L_s 2000 (by decide)).trans hsb
  have lx : lw_Cx p s m #[Value.ref b] c D (ad_L [a0, (u.getD 1 0), (u.getD 6 0), (u.getD 10 0), (u.getD 19 0), (u.getD 20 0), (u.getD 21 0), (u.getD 37 0), (u.getD 38 0), (u.getD 39 0), a1, (u.getD 0 0), (u.getD 2 0), (u.getD 3 0), (u.getD 4 0), (u.getD 5 0), (u.getD 7 0), (u.getD 8 0), (u.getD 9 0), (u.getD 11 0), (u.getD 12 0), (u.getD 13 0), (u.getD 14 0), (u.getD 15 0), (u.getD 16 0), (u.getD 17 0), (u.getD 18 0), (u.getD 30 0), (u.getD 31 0), (u.getD 32 0), (u.getD 33 0), (u.getD 34 0), (u.getD 35 0), (u.getD 36 0), (u.getD 22 0), (u.getD 23 0), (u.getD 24 0), (u.getD 25 0), (u.getD 26 0), (u.getD 27 0), (u.getD 28 0), (u.getD 29 0), (u.getD 40 0), (v.getD 0 0), (v.getD 1 0), (v.getD 2 0), (v.getD 3 0), (v.getD 4 0), (v.getD 5 0), (v.getD 6 0), (v.getD 7 0), (v.getD 8 0), (v.getD 9 0), (v.getD 10 0), (v.getD 11 0), (v.getD 12 0), (v.getD 13 0), (v.getD 14 0), (v.getD 15 0), (v.getD 16 0), (v.getD 17 0), (v.getD 18 0), (v.getD 19 0), (v.getD 20 0), (v.getD 21 0), (v.getD 22 0), (v.getD 23 0), (v.getD 24 0), (v.getD 25 0), (v.getD 26 0), (v.getD 27 0), (v.getD 28 0), (v.getD 29 0), (v.getD 30 0), (v.getD 31 0), (v.getD 32 0)] sd) cA (fun q : Nat => s.heap.size ≤ q) L xs := ⟨hx, hb, hml, hown, htb, hK, hA, hX2, by rw [e2]; exact hX, by rw [e2]; exact hbl, by rw [e2]; exact Nat.not_le.mpr hbl⟩
  have hgo := law_loop (below := below) (l := l) (e := e) (kc := 0 + 1 + 49 + 1 + 33) (ks := 0 + 12 + 226554 + 55 + 284098) ⟨by omega, by omega⟩ hL hr hlocks lx hJ hj (L + 1) 0 (ws_σ σN) (by omega) (by omega) (h0 σN hI)
  intro hN H locs ls hP hD hS hl2
  refine hgo rfl H locs ls hP hD hS (cg_lh ?_)
  have e3 : ([.ref 2000, .ref 0, .ref 10, .int (nI 0)] : List Value).map (pm_tau (ad_L [a0, (u.getD 1 0), (u.getD 6 0), (u.getD 10 0), (u.getD 19 0), (u.getD 20 0), (u.getD 21 0), (u.getD 37 0), (u.getD 38 0), (u.getD 39 0), a1, (u.getD 0 0), (u.getD 2 0), (u.getD 3 0), (u.getD 4 0), (u.getD 5 0), (u.getD 7 0), (u.getD 8 0), (u.getD 9 0), (u.getD 11 0), (u.getD 12 0), (u.getD 13 0), (u.getD 14 0), (u.getD 15 0), (u.getD 16 0), (u.getD 17 0), (u.getD 18 0), (u.getD 30 0), (u.getD 31 0), (u.getD 32 0), (u.getD 33 0), (u.getD 34 0), (u.getD 35 0), (u.getD 36 0), (u.getD 22 0), (u.getD 23 0), (u.getD 24 0), (u.getD 25 0), (u.getD 26 0), (u.getD 27 0), (u.getD 28 0), (u.getD 29 0), (u.getD 40 0), (v.getD 0 0), (v.getD 1 0), (v.getD 2 0), (v.getD 3 0), (v.getD 4 0), (v.getD 5 0), (v.getD 6 0), (v.getD 7 0), (v.getD 8 0), (v.getD 9 0), (v.getD 10 0), (v.getD 11 0), (v.getD 12 0), (v.getD 13 0), (v.getD 14 0), (v.getD 15 0), (v.getD 16 0), (v.getD 17 0), (v.getD 18 0), (v.getD 19 0), (v.getD 20 0), (v.getD 21 0), (v.getD 22 0), (v.getD 23 0), (v.getD 24 0), (v.getD 25 0), (v.getD 26 0), (v.getD 27 0), (v.getD 28 0), (v.getD 29 0), (v.getD 30 0), (v.getD 31 0), (v.getD 32 0)] sd)) = [.ref b, .ref a0, .ref a1, .int 0] := by
    simp only [List.map_cons, List.map_nil, pm_tau]
    rw [e2]
    rfl
  rw [e3]
  exact hl2
