/-! JUDGE of the reference, walked -/
def rju_F (σ τ : pm_S) : Prop := (∀ a b, a ≠ 10 → τ.1 a b = σ.1 a b) ∧ τ.1 10 1 = σ.1 10 1 ∧ ∀ k, k < 44 → τ.2.2 k = σ.2.2 k
def rju_R (t : Nat → Nat) (M n : Nat) (σ τ : pm_S) : Prop := rju_F σ τ ∧
  ((cj_f (pt_T t M n) ≠ 0 ∧ τ.1 10 50 = 0 ∧ τ.1 10 51 = cj_f (pt_T t M n) ∧ τ.1 10 54 = 0 ∧ (∃ c, c ≤ 409 ∧ τ.1 10 35 = nI c) ∧ (pt_f (pt_T t M n) (tx_c (pt_T t M n)) ≠ 0 → τ.1 10 52 = nI (lx_p t M lx_ns (tx_c (pt_T t M n)).1)) ∧ (pt_f (pt_T t M n) (tx_c (pt_T t M n)) = 0 → τ.1 10 52 = nI (rl_x (tx_l (pt_T t M n)) (rl_go (tx_l (pt_T t M n))).2.1).2.1)) ∨
   (pt_f (pt_T t M n) (tx_c (pt_T t M n)) = 0 ∧ (rl_go (tx_l (pt_T t M n))).1 = 0 ∧ τ.1 10 50 = 1 ∧ τ.1 10 51 = 0 ∧ τ.1 10 52 = -1 ∧ τ.1 10 54 = nI (tx_l (pt_T t M n)).length ∧ τ.1 10 35 = nI (rl_go (tx_l (pt_T t M n))).2.2.2.2.1.length ∧ τ.1 10 49 = nI (rl_all (rl_go (tx_l (pt_T t M n))).2.2.2.2.1) ∧ (∃ a : Nat → Nat, ∀ i, i < (tx_l (pt_T t M n)).length → a i < 20000 ∧ τ.2.2 75 i = nI (a i) ∧ τ.2.2 49 (a i) = nI (rl_k (tx_l (pt_T t M n)) i) ∧ τ.2.2 56 (a i) = (rl_go (tx_l (pt_T t M n))).2.2.2.2.2.1 i ∧ τ.2.2 57 (a i) = (rl_go (tx_l (pt_T t M n))).2.2.2.2.2.2.1 i ∧ τ.2.2 58 (a i) = (rl_go (tx_l (pt_T t M n))).2.2.2.2.2.2.2 i) ∧ (∀ b y, rl_blk (rl_go (tx_l (pt_T t M n))).2.2.2.2.1 b = some y → τ.2.2 67 b = nI y.2.2.2.1) ∧ ∀ b, b < (rl_go (tx_l (pt_T t M n))).2.2.2.2.1.length → τ.2.2 68 b = cl_P (rl_go (tx_l (pt_T t M n))).2.2.2.2.1 b))
/-- behind a fault -/
theorem re200f {Q : Option Value → pm_S → Prop} {σ : pm_S} {f p : Int32} (h6 : σ.1 10 6 = f) (h7 : σ.1 10 7 = p) (f0 : f ≠ 0) (hQ : Q (some (.int f)) (pm_pi (pm_pi (pm_pi (pm_pi σ 10 50 0) 10 51 f) 10 52 p) 10 54 0)) : pm_WP pm_Y0 (pm_call pm_Y0 (999)) 10 prog_14_method_120_code (some FieldType.int) Q 30 [.ref 10, pm_jk] [] σ := by
  refine wq_l 31 d200_30 rfl rfl rfl rfl ?_
  refine wq_l 32 d200_31 rfl rfl rfl rfl ?_
  refine wq_gf (ci := 10) (j := 6) (f := 0) (v := .int (f)) 35 d200_32 rfl rfl rfl (congrArg Value.int (h6)) rfl ?_
  refine wq_b 42 38 d200_35 rfl (by decide) rfl (fun c35 => ?_) (fun c35 => absurd (f0) c35)
  refine wq_k 43 0 d200_42 (by decide) rfl ?_
  refine wq_pf (ci := 10) (j := 50) 46 d200_43 rfl rfl rfl (⟨by decide, by decide⟩) rfl ?_
  refine wq_l 47 d200_46 rfl rfl rfl rfl ?_
  refine wq_l 48 d200_47 rfl rfl rfl rfl ?_
  refine wq_gf (ci := 10) (j := 6) (f := 0) (v := .int (f)) 51 d200_48 rfl rfl rfl (congrArg Value.int (h6)) rfl ?_
  refine wq_pf (ci := 10) (j := 51) 54 d200_51 rfl rfl rfl ⟨rfl, rfl⟩ rfl ?_
  refine wq_l 55 d200_54 rfl rfl rfl rfl ?_
  refine wq_l 56 d200_55 rfl rfl rfl rfl ?_
  refine wq_gf (ci := 10) (j := 6) (f := 0) (v := .int (f)) 59 d200_56 rfl rfl rfl (congrArg Value.int (h6)) rfl ?_
  refine wq_b 66 62 d200_59 rfl (by decide) rfl (fun c59 => ?_) (fun c59 => absurd (f0) c59)
  refine wq_l 67 d200_66 rfl rfl rfl rfl ?_
  refine wq_gf (ci := 10) (j := 7) (f := 0) (v := .int (p)) 70 d200_67 rfl rfl rfl (congrArg Value.int (h7)) rfl ?_
  refine wq_pf (ci := 10) (j := 52) 73 d200_70 rfl rfl rfl ⟨rfl, rfl⟩ rfl ?_
  refine wq_l 74 d200_73 rfl rfl rfl rfl ?_
  refine wq_k 75 0 d200_74 (by decide) rfl ?_
  refine wq_pf (ci := 10) (j := 54) 78 d200_75 rfl rfl rfl ⟨rfl, rfl⟩ rfl ?_
  refine wq_k 79 0 d200_78 (by decide) rfl ?_
  refine wq_s 80 d200_79 rfl rfl (Nat.le_of_ble_eq_true rfl) rfl rfl ?_
  refine wq_l 81 d200_80 rfl rfl rfl rfl ?_
  refine wq_b 121 84 d200_81 rfl (by decide) rfl (fun c81 => absurd c81 (by decide)) (fun c81 => ?_)
  refine wq_l 85 d200_84 rfl rfl rfl rfl ?_
  refine wq_gf (ci := 10) (j := 50) (f := 0) (v := .int (0)) 88 d200_85 rfl rfl rfl (congrArg Value.int (rfl)) rfl ?_
  refine wq_b 121 91 d200_88 rfl (by decide) rfl (fun c88 => ?_) (fun c88 => absurd (rfl) c88)
  refine wq_l 122 d200_121 rfl rfl rfl rfl ?_
  refine wq_gf (ci := 10) (j := 6) (f := 0) (v := .int (f)) 125 d200_122 rfl rfl rfl (congrArg Value.int (h6)) rfl ?_
  refine wq_ri d200_125 (rfl) ?_
  exact hQ
theorem rju {σ : pm_S} {Q : Option Value → pm_S → Prop} {t : Nat → Nat} {M n : Nat} (hN : rp_n t M n) (hT : rx_T σ t M) (hQ : ∀ τ, rju_R t M n σ τ → Q (some (.int (cj_f (pt_T t M n)))) τ) : pm_call pm_Y0 1000 200 [.ref 10] σ Q := by
  have ht := hT.2.2.2
  refine wq_m m200 (Nat.le_of_ble_eq_true rfl) (by decide) rfl ?_
  refine wq_l 1 d200_0 rfl rfl rfl rfl ?_
  refine wq_v 4 [] d200_1 rfl rfl m201 rfl rfl (Nat.le_of_ble_eq_true rfl) rfl (rp201 hN hT (fun σ1 h1 S Z D => ?_))
  have S : rp_S t M n σ1 (xs_fe (pt_T t M n) 44 (tx_c (pt_T t M n))) h1 61 := S
  have F1 : rju_F σ (pm_pi (pm_pi (pm_pi σ1 10 35 0) 10 41 0) 10 49 0) := by
    refine ⟨fun a b ha => ?_, ?_, fun k hk => ?_⟩
    · have e : (pm_pi (pm_pi (pm_pi σ1 10 35 0) 10 41 0) 10 49 0).1 a b = σ1.1 a b := by simp [pm_pi, ha]
      rw [e]
      exact (D.1 a b).resolve_left (fun z => ha z.1)
    · have e : (pm_pi (pm_pi (pm_pi σ1 10 35 0) 10 41 0) 10 49 0).1 10 1 = σ1.1 10 1 := by simp [pm_pi]
      rw [e]
      exact (D.1 10 1).resolve_left (fun z => by omega)
    · show σ1.2.2 k = _
      exact (D.2.2 k).resolve_left (by omega)
  have e35 : (pm_pi (pm_pi (pm_pi σ1 10 35 0) 10 41 0) 10 49 0).1 10 35 = 0 := by simp [pm_pi]
  have e41 : (pm_pi (pm_pi (pm_pi σ1 10 35 0) 10 41 0) 10 49 0).1 10 41 = 0 := by simp [pm_pi]
  have e6 : (pm_pi (pm_pi (pm_pi σ1 10 35 0) 10 41 0) 10 49 0).1 10 6 = σ1.1 10 6 := by simp [pm_pi]
  have e7 : (pm_pi (pm_pi (pm_pi σ1 10 35 0) 10 41 0) 10 49 0).1 10 7 = σ1.1 10 7 := by simp [pm_pi]
  have e2 : (pm_pi (pm_pi (pm_pi σ1 10 35 0) 10 41 0) 10 49 0).2 = σ1.2 := rfl
  refine wq_l 5 d200_4 rfl rfl rfl rfl ?_
  refine wq_k 6 0 d200_5 (by decide) rfl ?_
  refine wq_pf (ci := 10) (j := 35) 9 d200_6 rfl rfl rfl ⟨rfl, rfl⟩ rfl ?_
  refine wq_l 10 d200_9 rfl rfl rfl rfl ?_
  refine wq_k 11 0 d200_10 (by decide) rfl ?_
  refine wq_pf (ci := 10) (j := 41) 14 d200_11 rfl rfl rfl ⟨rfl, rfl⟩ rfl ?_
  refine wq_l 15 d200_14 rfl rfl rfl rfl ?_
  refine wq_k 16 0 d200_15 (by decide) rfl ?_
  refine wq_pf (ci := 10) (j := 49) 19 d200_16 rfl rfl rfl ⟨rfl, rfl⟩ rfl ?_
  generalize pm_pi (pm_pi (pm_pi σ1 10 35 0) 10 41 0) 10 49 0 = σ2 at *
  obtain ⟨⟨rT, rc, rl, rd⟩, rK, rL⟩ := S
  by_cases hl : pg_is (pt_T t M n) 44 (tx_c (pt_T t M n)) = true
  · have ec : xs_fe (pt_T t M n) 44 (tx_c (pt_T t M n)) = tx_c (pt_T t M n) := if_pos hl
    rw [ec] at rc rl
    have pf : pt_f (pt_T t M n) (tx_c (pt_T t M n)) = 0 ∧ pg_live (pt_T t M n) (tx_c (pt_T t M n)) ∧ (pt_T t M n).1 (tx_c (pt_T t M n)).1 = 44 := by
      generalize tx_c (pt_T t M n) = c at *
      have u' : pg_k (pt_T t M n) c = 44 := beq_iff_eq.mp hl
      have c0 : c.2.1 = 0 := by
        by_cases v : c.2.1 = 0
        · exact v
        · rw [show pg_k (pt_T t M n) c = 46 from if_neg v] at u'; exact absurd u' (by decide)
      rw [show pg_k (pt_T t M n) c = (pt_T t M n).1 c.1 from if_pos c0] at u'
      refine ⟨?_, ⟨c0, by rw [u']; decide⟩, u'⟩
      unfold pt_f
      rw [if_neg (by omega), if_pos hl]
    obtain ⟨pf, lv, k44⟩ := pf
    obtain ⟨r6, _, _, _, _, rN, _⟩ := rl lv
    have cn1 : (tx_c (pt_T t M n)).1 + 1 = n := by
      rcases Nat.lt_or_ge ((tx_c (pt_T t M n)).1 + 1) n with w | w
      · exfalso
        have := (hN.2.1 (tx_c (pt_T t M n)).1 (by omega)).2
        rw [show (pt_T t M n).1 (tx_c (pt_T t M n)).1 = lx_k t M lx_ns (tx_c (pt_T t M n)).1 from if_pos rc] at k44
        exact this k44
      · omega
    rw [cn1] at rN
    obtain ⟨hG, hnd, h0r⟩ := tx_G hN rc lv
    have hC := tx_C hN rc lv
    have hll := hG.2.2.2.1
    have Z := Z r6
    obtain ⟨a, aT, aD⟩ := rg_of (l0 := (pg_whl (pg_any (pt_T t M n) [0, 2, 4]) (pg_block (pt_T t M n)) pg_M (0, 0, 0)).2) Z hG.1 hG.2.2.2.2.1 hnd hll
    have aT : rg_T t M n σ1 (tx_l (pt_T t M n)) a := aT
    have aD : ∀ i, i < (tx_l (pt_T t M n)).length → σ1.2.2 56 (a i) = -1 ∧ σ1.2.2 57 (a i) = -1 ∧ σ1.2.2 58 (a i) = -1 := aD
    have er : σ2.2.2 = σ1.2.2 := by rw [e2]
    have el : σ2.2.1 = σ1.2.1 := by rw [e2]
    have sT : rs_T (tx_l (pt_T t M n)) a (nq_R t M n) σ2 := by
      have := rs_Tx aT
      unfold rs_T at *
      rw [er]
      exact this
    have sR : rs_R (nq_R t M n) σ2 := by
      have := rs_Rx hN ht rN
      unfold rs_R at *
      rw [el]
      exact this
    have e60 : σ2.1 10 6 = 0 := e6.trans r6
    have I0 : rr_I (tx_l (pt_T t M n)) a (nq_R t M n) σ2 σ2 false 0 rl_A0 := by
      refine ⟨sR, sT, ⟨fun _ _ => Or.inr rfl, rfl, fun _ => Or.inr (Or.inr rfl), 0, by decide, e35⟩, fun i hi => ?_, ⟨Nat.zero_le _, e35, fun b y hb => ?_⟩, ⟨Nat.zero_le _, e41, fun i v hv => ?_⟩, fun z => by cases z⟩
      · rw [er]
        obtain ⟨a1, a2, a3⟩ := aD i hi
        exact ⟨a1, fun _ => a2, fun _ => a3⟩
      · have := rl_blkl hb
        exact absurd this (Nat.not_lt_zero _)
      · have hv : ([] : List rl_V)[i]? = some v := hv
        rw [List.getElem?_nil] at hv
        cases hv
    refine wq_l 20 d200_19 rfl rfl rfl rfl ?_
    refine wq_gf (ci := 10) (j := 6) (f := 0) (v := .int (0)) 23 d200_20 rfl rfl rfl (congrArg Value.int (e60)) rfl ?_
    refine wq_b 30 26 d200_23 rfl (by decide) rfl (fun c23 => absurd c23 (fun z => z rfl)) (fun c23 => ?_)
    refine wq_l 27 d200_26 rfl rfl rfl rfl ?_
    refine wq_v 30 [] d200_27 rfl rfl m265 rfl rfl (Nat.le_of_ble_eq_true rfl) rfl (re265 hG h0r hC e60 I0 (fun σ3 X => ?_))
    obtain ⟨x1, x2, x3⟩ := X
    have hol := rl_oLa hG
    have gl := rl_gol hol
    have cf : cj_f (pt_T t M n) = nI (rl_go (tx_l (pt_T t M n))).1 := by
      unfold cj_f
      rw [pf, if_neg (fun z => z rfl)]
    have F3 : rju_F σ σ3 := by
      refine ⟨fun a b ha => ?_, ?_, fun k hk => ?_⟩
      · rw [(x1.1 a b).resolve_left (fun z => ha z.1)]; exact F1.1 a b ha
      · rw [(x1.1 10 1).resolve_left (fun z => by omega)]; exact F1.2.1
      · rw [((x1.2.2.1 k).resolve_left (by omega)).resolve_left (by omega)]; exact F1.2.2 k hk
    by_cases f0 : (rl_go (tx_l (pt_T t M n))).1 = 0
    · obtain ⟨y6, u, yI, yR⟩ := x2 f0
      have fE : ∀ x b, ¬ (x = 10 ∧ (b = 50 ∨ b = 51 ∨ b = 52 ∨ b = 54)) → (pm_pi (pm_pi (pm_pi (pm_pi σ3 10 50 1) 10 51 0) 10 52 (-1)) 10 54 0).1 x b = σ3.1 x b := fun x b q => by
        by_cases q1 : x = 10
        · have b1 : b ≠ 50 := fun z => q ⟨q1, by omega⟩
          have b2 : b ≠ 51 := fun z => q ⟨q1, by omega⟩
          have b3 : b ≠ 52 := fun z => q ⟨q1, by omega⟩
          have b4 : b ≠ 54 := fun z => q ⟨q1, by omega⟩
          simp [pm_pi, q1, b1, b2, b3, b4]
        · simp [pm_pi, q1]
      have y50 : (pm_pi (pm_pi (pm_pi (pm_pi σ3 10 50 1) 10 51 0) 10 52 (-1)) 10 54 0).1 10 50 = 1 := by simp [pm_pi]
      have y51 : (pm_pi (pm_pi (pm_pi (pm_pi σ3 10 50 1) 10 51 0) 10 52 (-1)) 10 54 0).1 10 51 = 0 := by simp [pm_pi]
      have y52 : (pm_pi (pm_pi (pm_pi (pm_pi σ3 10 50 1) 10 51 0) 10 52 (-1)) 10 54 0).1 10 52 = -1 := by simp [pm_pi]
      have y54 : (pm_pi (pm_pi (pm_pi (pm_pi σ3 10 50 1) 10 51 0) 10 52 (-1)) 10 54 0).1 10 54 = nI 0 := by simp [pm_pi]; rfl
      have fR : (pm_pi (pm_pi (pm_pi (pm_pi σ3 10 50 1) 10 51 0) 10 52 (-1)) 10 54 0).2 = σ3.2 := rfl
      refine wq_l 31 d200_30 rfl rfl rfl rfl ?_
      refine wq_l 32 d200_31 rfl rfl rfl rfl ?_
      refine wq_gf (ci := 10) (j := 6) (f := 0) (v := .int (0)) 35 d200_32 rfl rfl rfl (congrArg Value.int (y6)) rfl ?_
      refine wq_b 42 38 d200_35 rfl (by decide) rfl (fun c35 => absurd c35 (fun z => z rfl)) (fun c35 => ?_)
      refine wq_k 39 1 d200_38 (by decide) rfl ?_
      refine wq_g 43 d200_39 (by decide) ?_
      refine wq_pf (ci := 10) (j := 50) 46 d200_43 rfl rfl rfl (⟨by decide, by decide⟩) rfl ?_
      refine wq_l 47 d200_46 rfl rfl rfl rfl ?_
      refine wq_l 48 d200_47 rfl rfl rfl rfl ?_
      refine wq_gf (ci := 10) (j := 6) (f := 0) (v := .int (0)) 51 d200_48 rfl rfl rfl (congrArg Value.int (y6)) rfl ?_
      refine wq_pf (ci := 10) (j := 51) 54 d200_51 rfl rfl rfl ⟨rfl, rfl⟩ rfl ?_
      refine wq_l 55 d200_54 rfl rfl rfl rfl ?_
      refine wq_l 56 d200_55 rfl rfl rfl rfl ?_
      refine wq_gf (ci := 10) (j := 6) (f := 0) (v := .int (0)) 59 d200_56 rfl rfl rfl (congrArg Value.int (y6)) rfl ?_
      refine wq_b 66 62 d200_59 rfl (by decide) rfl (fun c59 => absurd c59 (fun z => z rfl)) (fun c59 => ?_)
      refine wq_k 63 (-1) d200_62 (by decide) rfl ?_
      refine wq_g 70 d200_63 (by decide) ?_
      refine wq_pf (ci := 10) (j := 52) 73 d200_70 rfl rfl rfl ⟨rfl, rfl⟩ rfl ?_
      refine wq_l 74 d200_73 rfl rfl rfl rfl ?_
      refine wq_k 75 0 d200_74 (by decide) rfl ?_
      refine wq_pf (ci := 10) (j := 54) 78 d200_75 rfl rfl rfl ⟨rfl, rfl⟩ rfl ?_
      refine wq_k 79 0 d200_78 (by decide) rfl ?_
      refine wq_s 80 d200_79 rfl rfl (Nat.le_of_ble_eq_true rfl) rfl rfl ?_
      have T3 := rr_T yI
      generalize pm_pi (pm_pi (pm_pi (pm_pi σ3 10 50 1) 10 51 0) 10 52 (-1)) 10 54 0 = σ4 at *
      have T4 : rs_T (tx_l (pt_T t M n)) a (nq_R t M n) σ4 := by
        unfold rs_T at *
        rw [show σ4.2.2 = σ3.2.2 by rw [fR]]
        exact T3
      have go := re200l (d := 998) (Q := Q) (f := 0) hG T4 (by rw [y50]; decide) ((fE 10 6 (fun z => by omega)).trans y6) (fun τ t1 t2 t3 t4 t5 => ?_) (tx_l (pt_T t M n)).length 0 σ4 (Nat.zero_add _) (fun _ _ => Or.inr rfl) rfl (fun _ _ => rfl) y54 (fun j hj => absurd hj (Nat.not_lt_zero _))
      · rw [if_pos hG.2.2.1, T4.1] at go
        exact go
      · have hQ := hQ τ
        rw [cf, f0] at hQ
        refine hQ ⟨⟨fun a b ha => ?_, ?_, fun k hk => ?_⟩, Or.inr ⟨pf, f0, ?_, ?_, ?_, t4, ?_, ?_, ⟨a, fun i hi => ?_⟩, fun b y hb => ?_, fun b hb => ?_⟩⟩
        · rw [(t1 a b).resolve_left (fun z => ha z.1), fE a b (fun z => ha z.1)]; exact F3.1 a b ha
        · rw [(t1 10 1).resolve_left (fun z => by omega), fE 10 1 (fun z => by omega)]; exact F3.2.1
        · rw [t3 k (by omega), fR]; exact F3.2.2 k hk
        · rw [(t1 10 50).resolve_left (fun z => by omega)]; exact y50
        · rw [(t1 10 51).resolve_left (fun z => by omega)]; exact y51
        · rw [(t1 10 52).resolve_left (fun z => by omega)]; exact y52
        · rw [(t1 10 35).resolve_left (fun z => by omega), fE 10 35 (fun z => by omega)]; exact yI.2.2.2.2.1.2.1
        · rw [(t1 10 49).resolve_left (fun z => by omega), fE 10 49 (fun z => by omega)]; exact yR.1
        · obtain ⟨d1, d2, d3⟩ := yI.2.2.2.1 i hi
          obtain ⟨m1, m2, _⟩ := T4.2.2.1 i hi
          refine ⟨m1, t5 i hi, ?_, ?_, ?_, ?_⟩
          · rw [t3 49 (by decide)]; exact m2
          · rw [t3 56 (by decide), fR]; exact d1
          · rw [t3 57 (by decide), fR]; exact d2 (fun z => absurd z.1 (by decide))
          · rw [t3 58 (by decide), fR]; exact d3 (fun z => absurd z.1 (by decide))
        · rw [t3 67 (by decide), fR]
          exact (yI.2.2.2.2.1.2.2 b y hb).2.2.2.2.2.2 (Or.inl rfl)
        · rw [t3 68 (by decide), fR]
          exact yR.2 b hb
    · obtain ⟨y6, y7⟩ := x3 f0
      have fE : ∀ p x b, ¬ (x = 10 ∧ (b = 50 ∨ b = 51 ∨ b = 52 ∨ b = 54)) → (pm_pi (pm_pi (pm_pi (pm_pi σ3 10 50 0) 10 51 (nI (rl_go (tx_l (pt_T t M n))).1)) 10 52 p) 10 54 0).1 x b = σ3.1 x b := fun p x b q => by
        by_cases q1 : x = 10
        · have b1 : b ≠ 50 := fun z => q ⟨q1, by omega⟩
          have b2 : b ≠ 51 := fun z => q ⟨q1, by omega⟩
          have b3 : b ≠ 52 := fun z => q ⟨q1, by omega⟩
          have b4 : b ≠ 54 := fun z => q ⟨q1, by omega⟩
          simp [pm_pi, q1, b1, b2, b3, b4]
        · simp [pm_pi, q1]
      have n0 : nI (rl_go (tx_l (pt_T t M n))).1 ≠ 0 := fun z => f0 (hp_inj (b := 0) (by omega) (by decide) z)
      refine re200f y6 y7 n0 ?_
      have hQ := hQ (pm_pi (pm_pi (pm_pi (pm_pi σ3 10 50 0) 10 51 (nI (rl_go (tx_l (pt_T t M n))).1)) 10 52 (nI (rl_x (tx_l (pt_T t M n)) (rl_go (tx_l (pt_T t M n))).2.1).2.1)) 10 54 0)
      rw [cf] at hQ
      refine hQ ⟨⟨fun a b ha => ?_, ?_, fun k hk => F3.2.2 k hk⟩, Or.inl ⟨by rw [cf]; exact n0, by simp [pm_pi], by rw [cf]; simp [pm_pi], by simp [pm_pi], ?_, fun z => absurd pf z, fun _ => by simp [pm_pi]⟩⟩
      · rw [fE _ a b (fun z => ha z.1)]; exact F3.1 a b ha
      · rw [fE _ 10 1 (fun z => by omega)]; exact F3.2.1
      · obtain ⟨c, c1, c2⟩ := x1.2.2.2
        exact ⟨c, c1, (fE _ 10 35 (fun z => by omega)).trans c2⟩
  · have ec : xs_fe (pt_T t M n) 44 (tx_c (pt_T t M n)) = pg_stop (tx_c (pt_T t M n)) := if_neg hl
    rw [ec] at rc rd
    obtain ⟨p1, p2⟩ := rf_pt (tx_Y (pt_T t M n)) hl
    obtain ⟨d1, d2, d3⟩ := rd p2
    rw [p1] at d1
    have d3 : σ1.1 10 7 = nI (lx_p t M lx_ns (tx_c (pt_T t M n)).1) := d3
    have n0 : pt_f (pt_T t M n) (tx_c (pt_T t M n)) ≠ 0 := by rw [← d1]; exact d2
    have cf : cj_f (pt_T t M n) = pt_f (pt_T t M n) (tx_c (pt_T t M n)) := by
      unfold cj_f
      rw [if_pos n0]
    rw [← cf] at d1 n0
    have nb := n0
    rw [cf] at nb
    generalize hgf : cj_f (pt_T t M n) = f at *
    have fE : ∀ p x b, ¬ (x = 10 ∧ (b = 50 ∨ b = 51 ∨ b = 52 ∨ b = 54)) → (pm_pi (pm_pi (pm_pi (pm_pi σ2 10 50 0) 10 51 f) 10 52 p) 10 54 0).1 x b = σ2.1 x b := fun p x b q => by
      by_cases q1 : x = 10
      · have b1 : b ≠ 50 := fun z => q ⟨q1, by omega⟩
        have b2 : b ≠ 51 := fun z => q ⟨q1, by omega⟩
        have b3 : b ≠ 52 := fun z => q ⟨q1, by omega⟩
        have b4 : b ≠ 54 := fun z => q ⟨q1, by omega⟩
        simp [pm_pi, q1, b1, b2, b3, b4]
      · simp [pm_pi, q1]
    refine wq_l 20 d200_19 rfl rfl rfl rfl ?_
    refine wq_gf (ci := 10) (j := 6) (f := 0) (v := .int (f)) 23 d200_20 rfl rfl rfl (congrArg Value.int (e6.trans d1)) rfl ?_
    refine wq_b 30 26 d200_23 rfl (by decide) rfl (fun c23 => ?_) (fun c23 => absurd (n0) c23)
    refine re200f (e6.trans d1) (e7.trans d3) n0 (hQ _ ⟨⟨fun a b ha => ?_, ?_, fun k hk => F1.2.2 k hk⟩, Or.inl ⟨by rw [hgf]; exact n0, by simp [pm_pi], by rw [hgf]; simp [pm_pi], by simp [pm_pi], ?_, fun _ => by simp [pm_pi], fun z => absurd z nb⟩⟩)
    · rw [fE _ a b (fun z => ha z.1)]; exact F1.1 a b ha
    · rw [fE _ 10 1 (fun z => by omega)]; exact F1.2.1
    · exact ⟨0, by decide, (fE _ 10 35 (fun z => by omega)).trans e35⟩
