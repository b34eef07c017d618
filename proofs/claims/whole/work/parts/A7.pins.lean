/-! inputs and outputs of the standard blocks -/
def nq_pin (s v : Nat) : Int32 := if s < 3 then (if v = 60 then 100 else if v = 61 then 121 else if v = 62 then 2 else if v = 63 then 23 else -1) else if s = 3 then (if v = 64 then 100 else if v = 65 then 101 else if v = 66 then 112 else if v = 62 then 3 else if v = 67 then 14 else -1) else if s = 4 then (if v = 68 then 100 else if v = 69 then 101 else if v = 66 then 112 else if v = 62 then 3 else if v = 67 then 14 else -1) else if s < 7 then (if v = 70 then 100 else if v = 62 then 1 else -1) else if s = 7 then (if v = 71 then 100 else if v = 65 then 101 else if v = 72 then 2 else -1) else (if v = 73 then 100 else if v = 74 then 101 else if v = 72 then 2 else -1)
theorem sp295 {d : Nat} {σ : pm_S} {Q : Option Value → pm_S → Prop} {x : Int64} {s v : Nat} (hs : s < 9) (hx : nq_x x v) (hQ : Q (some (.int (nq_pin s v))) σ) : pm_call pm_Y0 (d + 1) 295 [.int (nI (10100 + s)), .long x] σ Q := by
  have h9 : s = 0 ∨ s = 1 ∨ s = 2 ∨ s = 3 ∨ s = 4 ∨ s = 5 ∨ s = 6 ∨ s = 7 ∨ s = 8 := by omega
  rcases h9 with h | h | h | h | h | h | h | h | h
  · subst h
    refine wq_m m295 (Nat.le_of_ble_eq_true rfl) (by decide) rfl ?_
    refine wq_l 1 d295_0 rfl rfl rfl rfl ?_
    refine wq_k 4 10103 d295_1 (by decide) rfl ?_
    refine wq_b 11 7 d295_4 rfl (by decide) rfl (fun c4 => absurd c4 (by decide)) (fun c4 => ?_)
    refine wq_k 8 1 d295_7 (by decide) rfl ?_
    refine wq_g 12 d295_8 (by decide) ?_
    refine wq_s 13 d295_12 rfl rfl (Nat.le_of_ble_eq_true rfl) rfl rfl ?_
    refine wq_l 14 d295_13 rfl rfl rfl rfl ?_
    refine wq_k 17 10103 d295_14 (by decide) rfl ?_
    refine wq_b 27 20 d295_17 rfl (by decide) rfl (fun c17 => absurd c17 (by decide)) (fun c17 => ?_)
    refine wq_l 21 d295_20 rfl rfl rfl rfl ?_
    refine wq_k 24 10104 d295_21 (by decide) rfl ?_
    refine wq_b 31 27 d295_24 rfl (by decide) rfl (fun c24 => ?_) (fun c24 => absurd (by decide) c24)
    refine wq_k 32 0 d295_31 (by decide) rfl ?_
    refine wq_s 34 d295_32 rfl rfl (Nat.le_of_ble_eq_true rfl) rfl rfl ?_
    refine wq_l 35 d295_34 rfl rfl rfl rfl ?_
    refine wq_b 91 38 d295_35 rfl (by decide) rfl (fun c35 => absurd c35 (by decide)) (fun c35 => ?_)
    refine wq_l 39 d295_38 rfl rfl rfl rfl ?_
    refine wq_cl 42 d295_39 rfl rfl ?_
    refine wq_a 43 d295_42 rfl rfl ?_
    refine wq_b 51 46 d295_43 rfl (by decide) rfl (fun c43 => ?_) (fun c43 => ?_)
    · -- pc 51
      have f43 : ¬ v = 60 := by have y := c43; rw [lc_z] at y; exact fun q => y ((hx 60 (by decide) (by decide)).mpr q)
      refine wq_l 52 d295_51 rfl rfl rfl rfl ?_
      refine wq_cl 55 d295_52 rfl rfl ?_
      refine wq_a 56 d295_55 rfl rfl ?_
      refine wq_b 64 59 d295_56 rfl (by decide) rfl (fun c56 => ?_) (fun c56 => ?_)
      · -- pc 64
        have f56 : ¬ v = 61 := by have y := c56; rw [lc_z] at y; exact fun q => y ((hx 61 (by decide) (by decide)).mpr q)
        refine wq_l 65 d295_64 rfl rfl rfl rfl ?_
        refine wq_cl 68 d295_65 rfl rfl ?_
        refine wq_a 69 d295_68 rfl rfl ?_
        refine wq_b 76 72 d295_69 rfl (by decide) rfl (fun c69 => ?_) (fun c69 => ?_)
        · -- pc 76
          have f69 : ¬ v = 62 := by have y := c69; rw [lc_z] at y; exact fun q => y ((hx 62 (by decide) (by decide)).mpr q)
          refine wq_l 77 d295_76 rfl rfl rfl rfl ?_
          refine wq_cl 80 d295_77 rfl rfl ?_
          refine wq_a 81 d295_80 rfl rfl ?_
          refine wq_b 89 84 d295_81 rfl (by decide) rfl (fun c81 => ?_) (fun c81 => ?_)
          · -- pc 89
            have f81 : ¬ v = 63 := by have y := c81; rw [lc_z] at y; exact fun q => y ((hx 63 (by decide) (by decide)).mpr q)
            refine wq_k 90 (-1) d295_89 (by decide) rfl ?_
            refine wq_ri d295_90 (rfl) ?_
            first | (have fv : v = 60 := (by omega); rw [fv] at hQ; exact hQ) | (have fv : v = 61 := (by omega); rw [fv] at hQ; exact hQ) | (have fv : v = 62 := (by omega); rw [fv] at hQ; exact hQ) | (have fv : v = 63 := (by omega); rw [fv] at hQ; exact hQ) | (have e : nq_pin 0 v = -1 := Eq.trans ((if_pos (by decide))) ((if_neg (show ¬ v = 60 by omega)).trans ((if_neg (show ¬ v = 61 by omega)).trans ((if_neg (show ¬ v = 62 by omega)).trans ((if_neg (show ¬ v = 63 by omega)).trans (rfl))))); rw [e] at hQ; exact hQ)
          · -- pc 84
            have f81 : v = 63 := by have y := Classical.not_not.mp c81; rw [lc_z] at y; exact (hx 63 (by decide) (by decide)).mp y
            refine wq_k 86 23 d295_84 (by decide) rfl ?_
            refine wq_g 90 d295_86 (by decide) ?_
            refine wq_ri d295_90 (rfl) ?_
            first | (have fv : v = 60 := (by omega); rw [fv] at hQ; exact hQ) | (have fv : v = 61 := (by omega); rw [fv] at hQ; exact hQ) | (have fv : v = 62 := (by omega); rw [fv] at hQ; exact hQ) | (have fv : v = 63 := (by omega); rw [fv] at hQ; exact hQ) | (have e : nq_pin 0 v = -1 := Eq.trans ((if_pos (by decide))) ((if_neg (show ¬ v = 60 by omega)).trans ((if_neg (show ¬ v = 61 by omega)).trans ((if_neg (show ¬ v = 62 by omega)).trans ((if_neg (show ¬ v = 63 by omega)).trans (rfl))))); rw [e] at hQ; exact hQ)
        · -- pc 72
          have f69 : v = 62 := by have y := Classical.not_not.mp c69; rw [lc_z] at y; exact (hx 62 (by decide) (by decide)).mp y
          refine wq_k 73 2 d295_72 (by decide) rfl ?_
          refine wq_g 90 d295_73 (by decide) ?_
          refine wq_ri d295_90 (rfl) ?_
          first | (have fv : v = 60 := (by omega); rw [fv] at hQ; exact hQ) | (have fv : v = 61 := (by omega); rw [fv] at hQ; exact hQ) | (have fv : v = 62 := (by omega); rw [fv] at hQ; exact hQ) | (have fv : v = 63 := (by omega); rw [fv] at hQ; exact hQ) | (have e : nq_pin 0 v = -1 := Eq.trans ((if_pos (by decide))) ((if_neg (show ¬ v = 60 by omega)).trans ((if_neg (show ¬ v = 61 by omega)).trans ((if_neg (show ¬ v = 62 by omega)).trans ((if_neg (show ¬ v = 63 by omega)).trans (rfl))))); rw [e] at hQ; exact hQ)
      · -- pc 59
        have f56 : v = 61 := by have y := Classical.not_not.mp c56; rw [lc_z] at y; exact (hx 61 (by decide) (by decide)).mp y
        refine wq_k 61 121 d295_59 (by decide) rfl ?_
        refine wq_g 90 d295_61 (by decide) ?_
        refine wq_ri d295_90 (rfl) ?_
        first | (have fv : v = 60 := (by omega); rw [fv] at hQ; exact hQ) | (have fv : v = 61 := (by omega); rw [fv] at hQ; exact hQ) | (have fv : v = 62 := (by omega); rw [fv] at hQ; exact hQ) | (have fv : v = 63 := (by omega); rw [fv] at hQ; exact hQ) | (have e : nq_pin 0 v = -1 := Eq.trans ((if_pos (by decide))) ((if_neg (show ¬ v = 60 by omega)).trans ((if_neg (show ¬ v = 61 by omega)).trans ((if_neg (show ¬ v = 62 by omega)).trans ((if_neg (show ¬ v = 63 by omega)).trans (rfl))))); rw [e] at hQ; exact hQ)
    · -- pc 46
      have f43 : v = 60 := by have y := Classical.not_not.mp c43; rw [lc_z] at y; exact (hx 60 (by decide) (by decide)).mp y
      refine wq_k 48 100 d295_46 (by decide) rfl ?_
      refine wq_g 90 d295_48 (by decide) ?_
      refine wq_ri d295_90 (rfl) ?_
      first | (have fv : v = 60 := (by omega); rw [fv] at hQ; exact hQ) | (have fv : v = 61 := (by omega); rw [fv] at hQ; exact hQ) | (have fv : v = 62 := (by omega); rw [fv] at hQ; exact hQ) | (have fv : v = 63 := (by omega); rw [fv] at hQ; exact hQ) | (have e : nq_pin 0 v = -1 := Eq.trans ((if_pos (by decide))) ((if_neg (show ¬ v = 60 by omega)).trans ((if_neg (show ¬ v = 61 by omega)).trans ((if_neg (show ¬ v = 62 by omega)).trans ((if_neg (show ¬ v = 63 by omega)).trans (rfl))))); rw [e] at hQ; exact hQ)
  · subst h
    refine wq_m m295 (Nat.le_of_ble_eq_true rfl) (by decide) rfl ?_
    refine wq_l 1 d295_0 rfl rfl rfl rfl ?_
    refine wq_k 4 10103 d295_1 (by decide) rfl ?_
    refine wq_b 11 7 d295_4 rfl (by decide) rfl (fun c4 => absurd c4 (by decide)) (fun c4 => ?_)
    refine wq_k 8 1 d295_7 (by decide) rfl ?_
    refine wq_g 12 d295_8 (by decide) ?_
    refine wq_s 13 d295_12 rfl rfl (Nat.le_of_ble_eq_true rfl) rfl rfl ?_
    refine wq_l 14 d295_13 rfl rfl rfl rfl ?_
    refine wq_k 17 10103 d295_14 (by decide) rfl ?_
    refine wq_b 27 20 d295_17 rfl (by decide) rfl (fun c17 => absurd c17 (by decide)) (fun c17 => ?_)
    refine wq_l 21 d295_20 rfl rfl rfl rfl ?_
    refine wq_k 24 10104 d295_21 (by decide) rfl ?_
    refine wq_b 31 27 d295_24 rfl (by decide) rfl (fun c24 => ?_) (fun c24 => absurd (by decide) c24)
    refine wq_k 32 0 d295_31 (by decide) rfl ?_
    refine wq_s 34 d295_32 rfl rfl (Nat.le_of_ble_eq_true rfl) rfl rfl ?_
    refine wq_l 35 d295_34 rfl rfl rfl rfl ?_
    refine wq_b 91 38 d295_35 rfl (by decide) rfl (fun c35 => absurd c35 (by decide)) (fun c35 => ?_)
    refine wq_l 39 d295_38 rfl rfl rfl rfl ?_
    refine wq_cl 42 d295_39 rfl rfl ?_
    refine wq_a 43 d295_42 rfl rfl ?_
    refine wq_b 51 46 d295_43 rfl (by decide) rfl (fun c43 => ?_) (fun c43 => ?_)
    · -- pc 51
      have f43 : ¬ v = 60 := by have y := c43; rw [lc_z] at y; exact fun q => y ((hx 60 (by decide) (by decide)).mpr q)
      refine wq_l 52 d295_51 rfl rfl rfl rfl ?_
      refine wq_cl 55 d295_52 rfl rfl ?_
      refine wq_a 56 d295_55 rfl rfl ?_
      refine wq_b 64 59 d295_56 rfl (by decide) rfl (fun c56 => ?_) (fun c56 => ?_)
      · -- pc 64
        have f56 : ¬ v = 61 := by have y := c56; rw [lc_z] at y; exact fun q => y ((hx 61 (by decide) (by decide)).mpr q)
        refine wq_l 65 d295_64 rfl rfl rfl rfl ?_
        refine wq_cl 68 d295_65 rfl rfl ?_
        refine wq_a 69 d295_68 rfl rfl ?_
        refine wq_b 76 72 d295_69 rfl (by decide) rfl (fun c69 => ?_) (fun c69 => ?_)
        · -- pc 76
          have f69 : ¬ v = 62 := by have y := c69; rw [lc_z] at y; exact fun q => y ((hx 62 (by decide) (by decide)).mpr q)
          refine wq_l 77 d295_76 rfl rfl rfl rfl ?_
          refine wq_cl 80 d295_77 rfl rfl ?_
          refine wq_a 81 d295_80 rfl rfl ?_
          refine wq_b 89 84 d295_81 rfl (by decide) rfl (fun c81 => ?_) (fun c81 => ?_)
          · -- pc 89
            have f81 : ¬ v = 63 := by have y := c81; rw [lc_z] at y; exact fun q => y ((hx 63 (by decide) (by decide)).mpr q)
            refine wq_k 90 (-1) d295_89 (by decide) rfl ?_
            refine wq_ri d295_90 (rfl) ?_
            first | (have fv : v = 60 := (by omega); rw [fv] at hQ; exact hQ) | (have fv : v = 61 := (by omega); rw [fv] at hQ; exact hQ) | (have fv : v = 62 := (by omega); rw [fv] at hQ; exact hQ) | (have fv : v = 63 := (by omega); rw [fv] at hQ; exact hQ) | (have e : nq_pin 1 v = -1 := Eq.trans ((if_pos (by decide))) ((if_neg (show ¬ v = 60 by omega)).trans ((if_neg (show ¬ v = 61 by omega)).trans ((if_neg (show ¬ v = 62 by omega)).trans ((if_neg (show ¬ v = 63 by omega)).trans (rfl))))); rw [e] at hQ; exact hQ)
          · -- pc 84
            have f81 : v = 63 := by have y := Classical.not_not.mp c81; rw [lc_z] at y; exact (hx 63 (by decide) (by decide)).mp y
            refine wq_k 86 23 d295_84 (by decide) rfl ?_
            refine wq_g 90 d295_86 (by decide) ?_
            refine wq_ri d295_90 (rfl) ?_
            first | (have fv : v = 60 := (by omega); rw [fv] at hQ; exact hQ) | (have fv : v = 61 := (by omega); rw [fv] at hQ; exact hQ) | (have fv : v = 62 := (by omega); rw [fv] at hQ; exact hQ) | (have fv : v = 63 := (by omega); rw [fv] at hQ; exact hQ) | (have e : nq_pin 1 v = -1 := Eq.trans ((if_pos (by decide))) ((if_neg (show ¬ v = 60 by omega)).trans ((if_neg (show ¬ v = 61 by omega)).trans ((if_neg (show ¬ v = 62 by omega)).trans ((if_neg (show ¬ v = 63 by omega)).trans (rfl))))); rw [e] at hQ; exact hQ)
        · -- pc 72
          have f69 : v = 62 := by have y := Classical.not_not.mp c69; rw [lc_z] at y; exact (hx 62 (by decide) (by decide)).mp y
          refine wq_k 73 2 d295_72 (by decide) rfl ?_
          refine wq_g 90 d295_73 (by decide) ?_
          refine wq_ri d295_90 (rfl) ?_
          first | (have fv : v = 60 := (by omega); rw [fv] at hQ; exact hQ) | (have fv : v = 61 := (by omega); rw [fv] at hQ; exact hQ) | (have fv : v = 62 := (by omega); rw [fv] at hQ; exact hQ) | (have fv : v = 63 := (by omega); rw [fv] at hQ; exact hQ) | (have e : nq_pin 1 v = -1 := Eq.trans ((if_pos (by decide))) ((if_neg (show ¬ v = 60 by omega)).trans ((if_neg (show ¬ v = 61 by omega)).trans ((if_neg (show ¬ v = 62 by omega)).trans ((if_neg (show ¬ v = 63 by omega)).trans (rfl))))); rw [e] at hQ; exact hQ)
      · -- pc 59
        have f56 : v = 61 := by have y := Classical.not_not.mp c56; rw [lc_z] at y; exact (hx 61 (by decide) (by decide)).mp y
        refine wq_k 61 121 d295_59 (by decide) rfl ?_
        refine wq_g 90 d295_61 (by decide) ?_
        refine wq_ri d295_90 (rfl) ?_
        first | (have fv : v = 60 := (by omega); rw [fv] at hQ; exact hQ) | (have fv : v = 61 := (by omega); rw [fv] at hQ; exact hQ) | (have fv : v = 62 := (by omega); rw [fv] at hQ; exact hQ) | (have fv : v = 63 := (by omega); rw [fv] at hQ; exact hQ) | (have e : nq_pin 1 v = -1 := Eq.trans ((if_pos (by decide))) ((if_neg (show ¬ v = 60 by omega)).trans ((if_neg (show ¬ v = 61 by omega)).trans ((if_neg (show ¬ v = 62 by omega)).trans ((if_neg (show ¬ v = 63 by omega)).trans (rfl))))); rw [e] at hQ; exact hQ)
    · -- pc 46
      have f43 : v = 60 := by have y := Classical.not_not.mp c43; rw [lc_z] at y; exact (hx 60 (by decide) (by decide)).mp y
      refine wq_k 48 100 d295_46 (by decide) rfl ?_
      refine wq_g 90 d295_48 (by decide) ?_
      refine wq_ri d295_90 (rfl) ?_
      first | (have fv : v = 60 := (by omega); rw [fv] at hQ; exact hQ) | (have fv : v = 61 := (by omega); rw [fv] at hQ; exact hQ) | (have fv : v = 62 := (by omega); rw [fv] at hQ; exact hQ) | (have fv : v = 63 := (by omega); rw [fv] at hQ; exact hQ) | (have e : nq_pin 1 v = -1 := Eq.trans ((if_pos (by decide))) ((if_neg (show ¬ v = 60 by omega)).trans ((if_neg (show ¬ v = 61 by omega)).trans ((if_neg (show ¬ v = 62 by omega)).trans ((if_neg (show ¬ v = 63 by omega)).trans (rfl))))); rw [e] at hQ; exact hQ)
  · subst h
    refine wq_m m295 (Nat.le_of_ble_eq_true rfl) (by decide) rfl ?_
    refine wq_l 1 d295_0 rfl rfl rfl rfl ?_
    refine wq_k 4 10103 d295_1 (by decide) rfl ?_
    refine wq_b 11 7 d295_4 rfl (by decide) rfl (fun c4 => absurd c4 (by decide)) (fun c4 => ?_)
    refine wq_k 8 1 d295_7 (by decide) rfl ?_
    refine wq_g 12 d295_8 (by decide) ?_
    refine wq_s 13 d295_12 rfl rfl (Nat.le_of_ble_eq_true rfl) rfl rfl ?_
    refine wq_l 14 d295_13 rfl rfl rfl rfl ?_
    refine wq_k 17 10103 d295_14 (by decide) rfl ?_
    refine wq_b 27 20 d295_17 rfl (by decide) rfl (fun c17 => absurd c17 (by decide)) (fun c17 => ?_)
    refine wq_l 21 d295_20 rfl rfl rfl rfl ?_
    refine wq_k 24 10104 d295_21 (by decide) rfl ?_
    refine wq_b 31 27 d295_24 rfl (by decide) rfl (fun c24 => ?_) (fun c24 => absurd (by decide) c24)
    refine wq_k 32 0 d295_31 (by decide) rfl ?_
    refine wq_s 34 d295_32 rfl rfl (Nat.le_of_ble_eq_true rfl) rfl rfl ?_
    refine wq_l 35 d295_34 rfl rfl rfl rfl ?_
    refine wq_b 91 38 d295_35 rfl (by decide) rfl (fun c35 => absurd c35 (by decide)) (fun c35 => ?_)
    refine wq_l 39 d295_38 rfl rfl rfl rfl ?_
    refine wq_cl 42 d295_39 rfl rfl ?_
    refine wq_a 43 d295_42 rfl rfl ?_
    refine wq_b 51 46 d295_43 rfl (by decide) rfl (fun c43 => ?_) (fun c43 => ?_)
    · -- pc 51
      have f43 : ¬ v = 60 := by have y := c43; rw [lc_z] at y; exact fun q => y ((hx 60 (by decide) (by decide)).mpr q)
      refine wq_l 52 d295_51 rfl rfl rfl rfl ?_
      refine wq_cl 55 d295_52 rfl rfl ?_
      refine wq_a 56 d295_55 rfl rfl ?_
      refine wq_b 64 59 d295_56 rfl (by decide) rfl (fun c56 => ?_) (fun c56 => ?_)
      · -- pc 64
        have f56 : ¬ v = 61 := by have y := c56; rw [lc_z] at y; exact fun q => y ((hx 61 (by decide) (by decide)).mpr q)
        refine wq_l 65 d295_64 rfl rfl rfl rfl ?_
        refine wq_cl 68 d295_65 rfl rfl ?_
        refine wq_a 69 d295_68 rfl rfl ?_
        refine wq_b 76 72 d295_69 rfl (by decide) rfl (fun c69 => ?_) (fun c69 => ?_)
        · -- pc 76
          have f69 : ¬ v = 62 := by have y := c69; rw [lc_z] at y; exact fun q => y ((hx 62 (by decide) (by decide)).mpr q)
          refine wq_l 77 d295_76 rfl rfl rfl rfl ?_
          refine wq_cl 80 d295_77 rfl rfl ?_
          refine wq_a 81 d295_80 rfl rfl ?_
          refine wq_b 89 84 d295_81 rfl (by decide) rfl (fun c81 => ?_) (fun c81 => ?_)
          · -- pc 89
            have f81 : ¬ v = 63 := by have y := c81; rw [lc_z] at y; exact fun q => y ((hx 63 (by decide) (by decide)).mpr q)
            refine wq_k 90 (-1) d295_89 (by decide) rfl ?_
            refine wq_ri d295_90 (rfl) ?_
            first | (have fv : v = 60 := (by omega); rw [fv] at hQ; exact hQ) | (have fv : v = 61 := (by omega); rw [fv] at hQ; exact hQ) | (have fv : v = 62 := (by omega); rw [fv] at hQ; exact hQ) | (have fv : v = 63 := (by omega); rw [fv] at hQ; exact hQ) | (have e : nq_pin 2 v = -1 := Eq.trans ((if_pos (by decide))) ((if_neg (show ¬ v = 60 by omega)).trans ((if_neg (show ¬ v = 61 by omega)).trans ((if_neg (show ¬ v = 62 by omega)).trans ((if_neg (show ¬ v = 63 by omega)).trans (rfl))))); rw [e] at hQ; exact hQ)
          · -- pc 84
            have f81 : v = 63 := by have y := Classical.not_not.mp c81; rw [lc_z] at y; exact (hx 63 (by decide) (by decide)).mp y
            refine wq_k 86 23 d295_84 (by decide) rfl ?_
            refine wq_g 90 d295_86 (by decide) ?_
            refine wq_ri d295_90 (rfl) ?_
            first | (have fv : v = 60 := (by omega); rw [fv] at hQ; exact hQ) | (have fv : v = 61 := (by omega); rw [fv] at hQ; exact hQ) | (have fv : v = 62 := (by omega); rw [fv] at hQ; exact hQ) | (have fv : v = 63 := (by omega); rw [fv] at hQ; exact hQ) | (have e : nq_pin 2 v = -1 := Eq.trans ((if_pos (by decide))) ((if_neg (show ¬ v = 60 by omega)).trans ((if_neg (show ¬ v = 61 by omega)).trans ((if_neg (show ¬ v = 62 by omega)).trans ((if_neg (show ¬ v = 63 by omega)).trans (rfl))))); rw [e] at hQ; exact hQ)
        · -- pc 72
          have f69 : v = 62 := by have y := Classical.not_not.mp c69; rw [lc_z] at y; exact (hx 62 (by decide) (by decide)).mp y
          refine wq_k 73 2 d295_72 (by decide) rfl ?_
          refine wq_g 90 d295_73 (by decide) ?_
          refine wq_ri d295_90 (rfl) ?_
          first | (have fv : v = 60 := (by omega); rw [fv] at hQ; exact hQ) | (have fv : v = 61 := (by omega); rw [fv] at hQ; exact hQ) | (have fv : v = 62 := (by omega); rw [fv] at hQ; exact hQ) | (have fv : v = 63 := (by omega); rw [fv] at hQ; exact hQ) | (have e : nq_pin 2 v = -1 := Eq.trans ((if_pos (by decide))) ((if_neg (show ¬ v = 60 by omega)).trans ((if_neg (show ¬ v = 61 by omega)).trans ((if_neg (show ¬ v = 62 by omega)).trans ((if_neg (show ¬ v = 63 by omega)).trans (rfl))))); rw [e] at hQ; exact hQ)
      · -- pc 59
        have f56 : v = 61 := by have y := Classical.not_not.mp c56; rw [lc_z] at y; exact (hx 61 (by decide) (by decide)).mp y
        refine wq_k 61 121 d295_59 (by decide) rfl ?_
        refine wq_g 90 d295_61 (by decide) ?_
        refine wq_ri d295_90 (rfl) ?_
        first | (have fv : v = 60 := (by omega); rw [fv] at hQ; exact hQ) | (have fv : v = 61 := (by omega); rw [fv] at hQ; exact hQ) | (have fv : v = 62 := (by omega); rw [fv] at hQ; exact hQ) | (have fv : v = 63 := (by omega); rw [fv] at hQ; exact hQ) | (have e : nq_pin 2 v = -1 := Eq.trans ((if_pos (by decide))) ((if_neg (show ¬ v = 60 by omega)).trans ((if_neg (show ¬ v = 61 by omega)).trans ((if_neg (show ¬ v = 62 by omega)).trans ((if_neg (show ¬ v = 63 by omega)).trans (rfl))))); rw [e] at hQ; exact hQ)
    · -- pc 46
      have f43 : v = 60 := by have y := Classical.not_not.mp c43; rw [lc_z] at y; exact (hx 60 (by decide) (by decide)).mp y
      refine wq_k 48 100 d295_46 (by decide) rfl ?_
      refine wq_g 90 d295_48 (by decide) ?_
      refine wq_ri d295_90 (rfl) ?_
      first | (have fv : v = 60 := (by omega); rw [fv] at hQ; exact hQ) | (have fv : v = 61 := (by omega); rw [fv] at hQ; exact hQ) | (have fv : v = 62 := (by omega); rw [fv] at hQ; exact hQ) | (have fv : v = 63 := (by omega); rw [fv] at hQ; exact hQ) | (have e : nq_pin 2 v = -1 := Eq.trans ((if_pos (by decide))) ((if_neg (show ¬ v = 60 by omega)).trans ((if_neg (show ¬ v = 61 by omega)).trans ((if_neg (show ¬ v = 62 by omega)).trans ((if_neg (show ¬ v = 63 by omega)).trans (rfl))))); rw [e] at hQ; exact hQ)
  · subst h
    refine wq_m m295 (Nat.le_of_ble_eq_true rfl) (by decide) rfl ?_
    refine wq_l 1 d295_0 rfl rfl rfl rfl ?_
    refine wq_k 4 10103 d295_1 (by decide) rfl ?_
    refine wq_b 11 7 d295_4 rfl (by decide) rfl (fun c4 => ?_) (fun c4 => absurd (by decide) c4)
    refine wq_k 12 0 d295_11 (by decide) rfl ?_
    refine wq_s 13 d295_12 rfl rfl (Nat.le_of_ble_eq_true rfl) rfl rfl ?_
    refine wq_l 14 d295_13 rfl rfl rfl rfl ?_
    refine wq_k 17 10103 d295_14 (by decide) rfl ?_
    refine wq_b 27 20 d295_17 rfl (by decide) rfl (fun c17 => ?_) (fun c17 => absurd (by decide) c17)
    refine wq_k 28 1 d295_27 (by decide) rfl ?_
    refine wq_g 32 d295_28 (by decide) ?_
    refine wq_s 34 d295_32 rfl rfl (Nat.le_of_ble_eq_true rfl) rfl rfl ?_
    refine wq_l 35 d295_34 rfl rfl rfl rfl ?_
    refine wq_b 91 38 d295_35 rfl (by decide) rfl (fun c35 => ?_) (fun c35 => absurd (by decide) c35)
    refine wq_l 93 d295_91 rfl rfl rfl rfl ?_
    refine wq_b 198 96 d295_93 rfl (by decide) rfl (fun c93 => absurd c93 (by decide)) (fun c93 => ?_)
    refine wq_l 97 d295_96 rfl rfl rfl rfl ?_
    refine wq_k 100 10103 d295_97 (by decide) rfl ?_
    refine wq_b 107 103 d295_100 rfl (by decide) rfl (fun c100 => absurd c100 (by decide)) (fun c100 => ?_)
    refine wq_k 104 1 d295_103 (by decide) rfl ?_
    refine wq_g 108 d295_104 (by decide) ?_
    refine wq_s 110 d295_108 rfl rfl (Nat.le_of_ble_eq_true rfl) rfl rfl ?_
    refine wq_l 111 d295_110 rfl rfl rfl rfl ?_
    refine wq_l 113 d295_111 rfl rfl rfl rfl ?_
    refine wq_b 122 116 d295_113 rfl (by decide) rfl (fun c113 => absurd c113 (by decide)) (fun c113 => ?_)
    refine wq_cl 119 d295_116 rfl rfl ?_
    refine wq_g 125 d295_119 (by decide) ?_
    refine wq_a 126 d295_125 rfl rfl ?_
    refine wq_b 134 129 d295_126 rfl (by decide) rfl (fun c126 => ?_) (fun c126 => ?_)
    · -- pc 134
      have f126 : ¬ v = 64 := by have y := c126; rw [lc_z] at y; exact fun q => y ((hx 64 (by decide) (by decide)).mpr q)
      refine wq_l 135 d295_134 rfl rfl rfl rfl ?_
      refine wq_l 137 d295_135 rfl rfl rfl rfl ?_
      refine wq_b 146 140 d295_137 rfl (by decide) rfl (fun c137 => absurd c137 (by decide)) (fun c137 => ?_)
      refine wq_cl 143 d295_140 rfl rfl ?_
      refine wq_g 149 d295_143 (by decide) ?_
      refine wq_a 150 d295_149 rfl rfl ?_
      refine wq_b 158 153 d295_150 rfl (by decide) rfl (fun c150 => ?_) (fun c150 => ?_)
      · -- pc 158
        have f150 : ¬ v = 65 := by have y := c150; rw [lc_z] at y; exact fun q => y ((hx 65 (by decide) (by decide)).mpr q)
        refine wq_l 159 d295_158 rfl rfl rfl rfl ?_
        refine wq_cl 162 d295_159 rfl rfl ?_
        refine wq_a 163 d295_162 rfl rfl ?_
        refine wq_b 171 166 d295_163 rfl (by decide) rfl (fun c163 => ?_) (fun c163 => ?_)
        · -- pc 171
          have f163 : ¬ v = 66 := by have y := c163; rw [lc_z] at y; exact fun q => y ((hx 66 (by decide) (by decide)).mpr q)
          refine wq_l 172 d295_171 rfl rfl rfl rfl ?_
          refine wq_cl 175 d295_172 rfl rfl ?_
          refine wq_a 176 d295_175 rfl rfl ?_
          refine wq_b 183 179 d295_176 rfl (by decide) rfl (fun c176 => ?_) (fun c176 => ?_)
          · -- pc 183
            have f176 : ¬ v = 62 := by have y := c176; rw [lc_z] at y; exact fun q => y ((hx 62 (by decide) (by decide)).mpr q)
            refine wq_l 184 d295_183 rfl rfl rfl rfl ?_
            refine wq_cl 187 d295_184 rfl rfl ?_
            refine wq_a 188 d295_187 rfl rfl ?_
            refine wq_b 196 191 d295_188 rfl (by decide) rfl (fun c188 => ?_) (fun c188 => ?_)
            · -- pc 196
              have f188 : ¬ v = 67 := by have y := c188; rw [lc_z] at y; exact fun q => y ((hx 67 (by decide) (by decide)).mpr q)
              refine wq_k 197 (-1) d295_196 (by decide) rfl ?_
              refine wq_ri d295_197 (rfl) ?_
              first | (have fv : v = 64 := (by omega); rw [fv] at hQ; exact hQ) | (have fv : v = 65 := (by omega); rw [fv] at hQ; exact hQ) | (have fv : v = 66 := (by omega); rw [fv] at hQ; exact hQ) | (have fv : v = 62 := (by omega); rw [fv] at hQ; exact hQ) | (have fv : v = 67 := (by omega); rw [fv] at hQ; exact hQ) | (have e : nq_pin 3 v = -1 := Eq.trans ((if_neg (by decide)).trans (if_pos (by decide))) ((if_neg (show ¬ v = 64 by omega)).trans ((if_neg (show ¬ v = 65 by omega)).trans ((if_neg (show ¬ v = 66 by omega)).trans ((if_neg (show ¬ v = 62 by omega)).trans ((if_neg (show ¬ v = 67 by omega)).trans (rfl)))))); rw [e] at hQ; exact hQ)
            · -- pc 191
              have f188 : v = 67 := by have y := Classical.not_not.mp c188; rw [lc_z] at y; exact (hx 67 (by decide) (by decide)).mp y
              refine wq_k 193 14 d295_191 (by decide) rfl ?_
              refine wq_g 197 d295_193 (by decide) ?_
              refine wq_ri d295_197 (rfl) ?_
              first | (have fv : v = 64 := (by omega); rw [fv] at hQ; exact hQ) | (have fv : v = 65 := (by omega); rw [fv] at hQ; exact hQ) | (have fv : v = 66 := (by omega); rw [fv] at hQ; exact hQ) | (have fv : v = 62 := (by omega); rw [fv] at hQ; exact hQ) | (have fv : v = 67 := (by omega); rw [fv] at hQ; exact hQ) | (have e : nq_pin 3 v = -1 := Eq.trans ((if_neg (by decide)).trans (if_pos (by decide))) ((if_neg (show ¬ v = 64 by omega)).trans ((if_neg (show ¬ v = 65 by omega)).trans ((if_neg (show ¬ v = 66 by omega)).trans ((if_neg (show ¬ v = 62 by omega)).trans ((if_neg (show ¬ v = 67 by omega)).trans (rfl)))))); rw [e] at hQ; exact hQ)
          · -- pc 179
            have f176 : v = 62 := by have y := Classical.not_not.mp c176; rw [lc_z] at y; exact (hx 62 (by decide) (by decide)).mp y
            refine wq_k 180 3 d295_179 (by decide) rfl ?_
            refine wq_g 197 d295_180 (by decide) ?_
            refine wq_ri d295_197 (rfl) ?_
            first | (have fv : v = 64 := (by omega); rw [fv] at hQ; exact hQ) | (have fv : v = 65 := (by omega); rw [fv] at hQ; exact hQ) | (have fv : v = 66 := (by omega); rw [fv] at hQ; exact hQ) | (have fv : v = 62 := (by omega); rw [fv] at hQ; exact hQ) | (have fv : v = 67 := (by omega); rw [fv] at hQ; exact hQ) | (have e : nq_pin 3 v = -1 := Eq.trans ((if_neg (by decide)).trans (if_pos (by decide))) ((if_neg (show ¬ v = 64 by omega)).trans ((if_neg (show ¬ v = 65 by omega)).trans ((if_neg (show ¬ v = 66 by omega)).trans ((if_neg (show ¬ v = 62 by omega)).trans ((if_neg (show ¬ v = 67 by omega)).trans (rfl)))))); rw [e] at hQ; exact hQ)
        · -- pc 166
          have f163 : v = 66 := by have y := Classical.not_not.mp c163; rw [lc_z] at y; exact (hx 66 (by decide) (by decide)).mp y
          refine wq_k 168 112 d295_166 (by decide) rfl ?_
          refine wq_g 197 d295_168 (by decide) ?_
          refine wq_ri d295_197 (rfl) ?_
          first | (have fv : v = 64 := (by omega); rw [fv] at hQ; exact hQ) | (have fv : v = 65 := (by omega); rw [fv] at hQ; exact hQ) | (have fv : v = 66 := (by omega); rw [fv] at hQ; exact hQ) | (have fv : v = 62 := (by omega); rw [fv] at hQ; exact hQ) | (have fv : v = 67 := (by omega); rw [fv] at hQ; exact hQ) | (have e : nq_pin 3 v = -1 := Eq.trans ((if_neg (by decide)).trans (if_pos (by decide))) ((if_neg (show ¬ v = 64 by omega)).trans ((if_neg (show ¬ v = 65 by omega)).trans ((if_neg (show ¬ v = 66 by omega)).trans ((if_neg (show ¬ v = 62 by omega)).trans ((if_neg (show ¬ v = 67 by omega)).trans (rfl)))))); rw [e] at hQ; exact hQ)
      · -- pc 153
        have f150 : v = 65 := by have y := Classical.not_not.mp c150; rw [lc_z] at y; exact (hx 65 (by decide) (by decide)).mp y
        refine wq_k 155 101 d295_153 (by decide) rfl ?_
        refine wq_g 197 d295_155 (by decide) ?_
        refine wq_ri d295_197 (rfl) ?_
        first | (have fv : v = 64 := (by omega); rw [fv] at hQ; exact hQ) | (have fv : v = 65 := (by omega); rw [fv] at hQ; exact hQ) | (have fv : v = 66 := (by omega); rw [fv] at hQ; exact hQ) | (have fv : v = 62 := (by omega); rw [fv] at hQ; exact hQ) | (have fv : v = 67 := (by omega); rw [fv] at hQ; exact hQ) | (have e : nq_pin 3 v = -1 := Eq.trans ((if_neg (by decide)).trans (if_pos (by decide))) ((if_neg (show ¬ v = 64 by omega)).trans ((if_neg (show ¬ v = 65 by omega)).trans ((if_neg (show ¬ v = 66 by omega)).trans ((if_neg (show ¬ v = 62 by omega)).trans ((if_neg (show ¬ v = 67 by omega)).trans (rfl)))))); rw [e] at hQ; exact hQ)
    · -- pc 129
      have f126 : v = 64 := by have y := Classical.not_not.mp c126; rw [lc_z] at y; exact (hx 64 (by decide) (by decide)).mp y
      refine wq_k 131 100 d295_129 (by decide) rfl ?_
      refine wq_g 197 d295_131 (by decide) ?_
      refine wq_ri d295_197 (rfl) ?_
      first | (have fv : v = 64 := (by omega); rw [fv] at hQ; exact hQ) | (have fv : v = 65 := (by omega); rw [fv] at hQ; exact hQ) | (have fv : v = 66 := (by omega); rw [fv] at hQ; exact hQ) | (have fv : v = 62 := (by omega); rw [fv] at hQ; exact hQ) | (have fv : v = 67 := (by omega); rw [fv] at hQ; exact hQ) | (have e : nq_pin 3 v = -1 := Eq.trans ((if_neg (by decide)).trans (if_pos (by decide))) ((if_neg (show ¬ v = 64 by omega)).trans ((if_neg (show ¬ v = 65 by omega)).trans ((if_neg (show ¬ v = 66 by omega)).trans ((if_neg (show ¬ v = 62 by omega)).trans ((if_neg (show ¬ v = 67 by omega)).trans (rfl)))))); rw [e] at hQ; exact hQ)
  · subst h
    refine wq_m m295 (Nat.le_of_ble_eq_true rfl) (by decide) rfl ?_
    refine wq_l 1 d295_0 rfl rfl rfl rfl ?_
    refine wq_k 4 10103 d295_1 (by decide) rfl ?_
    refine wq_b 11 7 d295_4 rfl (by decide) rfl (fun c4 => ?_) (fun c4 => absurd (by decide) c4)
    refine wq_k 12 0 d295_11 (by decide) rfl ?_
    refine wq_s 13 d295_12 rfl rfl (Nat.le_of_ble_eq_true rfl) rfl rfl ?_
    refine wq_l 14 d295_13 rfl rfl rfl rfl ?_
    refine wq_k 17 10103 d295_14 (by decide) rfl ?_
    refine wq_b 27 20 d295_17 rfl (by decide) rfl (fun c17 => absurd c17 (by decide)) (fun c17 => ?_)
    refine wq_l 21 d295_20 rfl rfl rfl rfl ?_
    refine wq_k 24 10104 d295_21 (by decide) rfl ?_
    refine wq_b 31 27 d295_24 rfl (by decide) rfl (fun c24 => absurd c24 (by decide)) (fun c24 => ?_)
    refine wq_k 28 1 d295_27 (by decide) rfl ?_
    refine wq_g 32 d295_28 (by decide) ?_
    refine wq_s 34 d295_32 rfl rfl (Nat.le_of_ble_eq_true rfl) rfl rfl ?_
    refine wq_l 35 d295_34 rfl rfl rfl rfl ?_
    refine wq_b 91 38 d295_35 rfl (by decide) rfl (fun c35 => ?_) (fun c35 => absurd (by decide) c35)
    refine wq_l 93 d295_91 rfl rfl rfl rfl ?_
    refine wq_b 198 96 d295_93 rfl (by decide) rfl (fun c93 => absurd c93 (by decide)) (fun c93 => ?_)
    refine wq_l 97 d295_96 rfl rfl rfl rfl ?_
    refine wq_k 100 10103 d295_97 (by decide) rfl ?_
    refine wq_b 107 103 d295_100 rfl (by decide) rfl (fun c100 => ?_) (fun c100 => absurd (by decide) c100)
    refine wq_k 108 0 d295_107 (by decide) rfl ?_
    refine wq_s 110 d295_108 rfl rfl (Nat.le_of_ble_eq_true rfl) rfl rfl ?_
    refine wq_l 111 d295_110 rfl rfl rfl rfl ?_
    refine wq_l 113 d295_111 rfl rfl rfl rfl ?_
    refine wq_b 122 116 d295_113 rfl (by decide) rfl (fun c113 => ?_) (fun c113 => absurd (by decide) c113)
    refine wq_cl 125 d295_122 rfl rfl ?_
    refine wq_a 126 d295_125 rfl rfl ?_
    refine wq_b 134 129 d295_126 rfl (by decide) rfl (fun c126 => ?_) (fun c126 => ?_)
    · -- pc 134
      have f126 : ¬ v = 68 := by have y := c126; rw [lc_z] at y; exact fun q => y ((hx 68 (by decide) (by decide)).mpr q)
      refine wq_l 135 d295_134 rfl rfl rfl rfl ?_
      refine wq_l 137 d295_135 rfl rfl rfl rfl ?_
      refine wq_b 146 140 d295_137 rfl (by decide) rfl (fun c137 => ?_) (fun c137 => absurd (by decide) c137)
      refine wq_cl 149 d295_146 rfl rfl ?_
      refine wq_a 150 d295_149 rfl rfl ?_
      refine wq_b 158 153 d295_150 rfl (by decide) rfl (fun c150 => ?_) (fun c150 => ?_)
      · -- pc 158
        have f150 : ¬ v = 69 := by have y := c150; rw [lc_z] at y; exact fun q => y ((hx 69 (by decide) (by decide)).mpr q)
        refine wq_l 159 d295_158 rfl rfl rfl rfl ?_
        refine wq_cl 162 d295_159 rfl rfl ?_
        refine wq_a 163 d295_162 rfl rfl ?_
        refine wq_b 171 166 d295_163 rfl (by decide) rfl (fun c163 => ?_) (fun c163 => ?_)
        · -- pc 171
          have f163 : ¬ v = 66 := by have y := c163; rw [lc_z] at y; exact fun q => y ((hx 66 (by decide) (by decide)).mpr q)
          refine wq_l 172 d295_171 rfl rfl rfl rfl ?_
          refine wq_cl 175 d295_172 rfl rfl ?_
          refine wq_a 176 d295_175 rfl rfl ?_
          refine wq_b 183 179 d295_176 rfl (by decide) rfl (fun c176 => ?_) (fun c176 => ?_)
          · -- pc 183
            have f176 : ¬ v = 62 := by have y := c176; rw [lc_z] at y; exact fun q => y ((hx 62 (by decide) (by decide)).mpr q)
            refine wq_l 184 d295_183 rfl rfl rfl rfl ?_
            refine wq_cl 187 d295_184 rfl rfl ?_
            refine wq_a 188 d295_187 rfl rfl ?_
            refine wq_b 196 191 d295_188 rfl (by decide) rfl (fun c188 => ?_) (fun c188 => ?_)
            · -- pc 196
              have f188 : ¬ v = 67 := by have y := c188; rw [lc_z] at y; exact fun q => y ((hx 67 (by decide) (by decide)).mpr q)
              refine wq_k 197 (-1) d295_196 (by decide) rfl ?_
              refine wq_ri d295_197 (rfl) ?_
              first | (have fv : v = 68 := (by omega); rw [fv] at hQ; exact hQ) | (have fv : v = 69 := (by omega); rw [fv] at hQ; exact hQ) | (have fv : v = 66 := (by omega); rw [fv] at hQ; exact hQ) | (have fv : v = 62 := (by omega); rw [fv] at hQ; exact hQ) | (have fv : v = 67 := (by omega); rw [fv] at hQ; exact hQ) | (have e : nq_pin 4 v = -1 := Eq.trans ((if_neg (by decide)).trans ((if_neg (by decide)).trans (if_pos (by decide)))) ((if_neg (show ¬ v = 68 by omega)).trans ((if_neg (show ¬ v = 69 by omega)).trans ((if_neg (show ¬ v = 66 by omega)).trans ((if_neg (show ¬ v = 62 by omega)).trans ((if_neg (show ¬ v = 67 by omega)).trans (rfl)))))); rw [e] at hQ; exact hQ)
            · -- pc 191
              have f188 : v = 67 := by have y := Classical.not_not.mp c188; rw [lc_z] at y; exact (hx 67 (by decide) (by decide)).mp y
              refine wq_k 193 14 d295_191 (by decide) rfl ?_
              refine wq_g 197 d295_193 (by decide) ?_
              refine wq_ri d295_197 (rfl) ?_
              first | (have fv : v = 68 := (by omega); rw [fv] at hQ; exact hQ) | (have fv : v = 69 := (by omega); rw [fv] at hQ; exact hQ) | (have fv : v = 66 := (by omega); rw [fv] at hQ; exact hQ) | (have fv : v = 62 := (by omega); rw [fv] at hQ; exact hQ) | (have fv : v = 67 := (by omega); rw [fv] at hQ; exact hQ) | (have e : nq_pin 4 v = -1 := Eq.trans ((if_neg (by decide)).trans ((if_neg (by decide)).trans (if_pos (by decide)))) ((if_neg (show ¬ v = 68 by omega)).trans ((if_neg (show ¬ v = 69 by omega)).trans ((if_neg (show ¬ v = 66 by omega)).trans ((if_neg (show ¬ v = 62 by omega)).trans ((if_neg (show ¬ v = 67 by omega)).trans (rfl)))))); rw [e] at hQ; exact hQ)
          · -- pc 179
            have f176 : v = 62 := by have y := Classical.not_not.mp c176; rw [lc_z] at y; exact (hx 62 (by decide) (by decide)).mp y
            refine wq_k 180 3 d295_179 (by decide) rfl ?_
            refine wq_g 197 d295_180 (by decide) ?_
            refine wq_ri d295_197 (rfl) ?_
            first | (have fv : v = 68 := (by omega); rw [fv] at hQ; exact hQ) | (have fv : v = 69 := (by omega); rw [fv] at hQ; exact hQ) | (have fv : v = 66 := (by omega); rw [fv] at hQ; exact hQ) | (have fv : v = 62 := (by omega); rw [fv] at hQ; exact hQ) | (have fv : v = 67 := (by omega); rw [fv] at hQ; exact hQ) | (have e : nq_pin 4 v = -1 := Eq.trans ((if_neg (by decide)).trans ((if_neg (by decide)).trans (if_pos (by decide)))) ((if_neg (show ¬ v = 68 by omega)).trans ((if_neg (show ¬ v = 69 by omega)).trans ((if_neg (show ¬ v = 66 by omega)).trans ((if_neg (show ¬ v = 62 by omega)).trans ((if_neg (show ¬ v = 67 by omega)).trans (rfl)))))); rw [e] at hQ; exact hQ)
        · -- pc 166
          have f163 : v = 66 := by have y := Classical.not_not.mp c163; rw [lc_z] at y; exact (hx 66 (by decide) (by decide)).mp y
          refine wq_k 168 112 d295_166 (by decide) rfl ?_
          refine wq_g 197 d295_168 (by decide) ?_
          refine wq_ri d295_197 (rfl) ?_
          first | (have fv : v = 68 := (by omega); rw [fv] at hQ; exact hQ) | (have fv : v = 69 := (by omega); rw [fv] at hQ; exact hQ) | (have fv : v = 66 := (by omega); rw [fv] at hQ; exact hQ) | (have fv : v = 62 := (by omega); rw [fv] at hQ; exact hQ) | (have fv : v = 67 := (by omega); rw [fv] at hQ; exact hQ) | (have e : nq_pin 4 v = -1 := Eq.trans ((if_neg (by decide)).trans ((if_neg (by decide)).trans (if_pos (by decide)))) ((if_neg (show ¬ v = 68 by omega)).trans ((if_neg (show ¬ v = 69 by omega)).trans ((if_neg (show ¬ v = 66 by omega)).trans ((if_neg (show ¬ v = 62 by omega)).trans ((if_neg (show ¬ v = 67 by omega)).trans (rfl)))))); rw [e] at hQ; exact hQ)
      · -- pc 153
        have f150 : v = 69 := by have y := Classical.not_not.mp c150; rw [lc_z] at y; exact (hx 69 (by decide) (by decide)).mp y
        refine wq_k 155 101 d295_153 (by decide) rfl ?_
        refine wq_g 197 d295_155 (by decide) ?_
        refine wq_ri d295_197 (rfl) ?_
        first | (have fv : v = 68 := (by omega); rw [fv] at hQ; exact hQ) | (have fv : v = 69 := (by omega); rw [fv] at hQ; exact hQ) | (have fv : v = 66 := (by omega); rw [fv] at hQ; exact hQ) | (have fv : v = 62 := (by omega); rw [fv] at hQ; exact hQ) | (have fv : v = 67 := (by omega); rw [fv] at hQ; exact hQ) | (have e : nq_pin 4 v = -1 := Eq.trans ((if_neg (by decide)).trans ((if_neg (by decide)).trans (if_pos (by decide)))) ((if_neg (show ¬ v = 68 by omega)).trans ((if_neg (show ¬ v = 69 by omega)).trans ((if_neg (show ¬ v = 66 by omega)).trans ((if_neg (show ¬ v = 62 by omega)).trans ((if_neg (show ¬ v = 67 by omega)).trans (rfl)))))); rw [e] at hQ; exact hQ)
    · -- pc 129
      have f126 : v = 68 := by have y := Classical.not_not.mp c126; rw [lc_z] at y; exact (hx 68 (by decide) (by decide)).mp y
      refine wq_k 131 100 d295_129 (by decide) rfl ?_
      refine wq_g 197 d295_131 (by decide) ?_
      refine wq_ri d295_197 (rfl) ?_
      first | (have fv : v = 68 := (by omega); rw [fv] at hQ; exact hQ) | (have fv : v = 69 := (by omega); rw [fv] at hQ; exact hQ) | (have fv : v = 66 := (by omega); rw [fv] at hQ; exact hQ) | (have fv : v = 62 := (by omega); rw [fv] at hQ; exact hQ) | (have fv : v = 67 := (by omega); rw [fv] at hQ; exact hQ) | (have e : nq_pin 4 v = -1 := Eq.trans ((if_neg (by decide)).trans ((if_neg (by decide)).trans (if_pos (by decide)))) ((if_neg (show ¬ v = 68 by omega)).trans ((if_neg (show ¬ v = 69 by omega)).trans ((if_neg (show ¬ v = 66 by omega)).trans ((if_neg (show ¬ v = 62 by omega)).trans ((if_neg (show ¬ v = 67 by omega)).trans (rfl)))))); rw [e] at hQ; exact hQ)
  · subst h
    refine wq_m m295 (Nat.le_of_ble_eq_true rfl) (by decide) rfl ?_
    refine wq_l 1 d295_0 rfl rfl rfl rfl ?_
    refine wq_k 4 10103 d295_1 (by decide) rfl ?_
    refine wq_b 11 7 d295_4 rfl (by decide) rfl (fun c4 => ?_) (fun c4 => absurd (by decide) c4)
    refine wq_k 12 0 d295_11 (by decide) rfl ?_
    refine wq_s 13 d295_12 rfl rfl (Nat.le_of_ble_eq_true rfl) rfl rfl ?_
    refine wq_l 14 d295_13 rfl rfl rfl rfl ?_
    refine wq_k 17 10103 d295_14 (by decide) rfl ?_
    refine wq_b 27 20 d295_17 rfl (by decide) rfl (fun c17 => absurd c17 (by decide)) (fun c17 => ?_)
    refine wq_l 21 d295_20 rfl rfl rfl rfl ?_
    refine wq_k 24 10104 d295_21 (by decide) rfl ?_
    refine wq_b 31 27 d295_24 rfl (by decide) rfl (fun c24 => ?_) (fun c24 => absurd (by decide) c24)
    refine wq_k 32 0 d295_31 (by decide) rfl ?_
    refine wq_s 34 d295_32 rfl rfl (Nat.le_of_ble_eq_true rfl) rfl rfl ?_
    refine wq_l 35 d295_34 rfl rfl rfl rfl ?_
    refine wq_b 91 38 d295_35 rfl (by decide) rfl (fun c35 => ?_) (fun c35 => absurd (by decide) c35)
    refine wq_l 93 d295_91 rfl rfl rfl rfl ?_
    refine wq_b 198 96 d295_93 rfl (by decide) rfl (fun c93 => ?_) (fun c93 => absurd (by decide) c93)
    refine wq_l 199 d295_198 rfl rfl rfl rfl ?_
    refine wq_k 202 10107 d295_199 (by decide) rfl ?_
    refine wq_b 232 205 d295_202 rfl (by decide) rfl (fun c202 => absurd c202 (by decide)) (fun c202 => ?_)
    refine wq_l 206 d295_205 rfl rfl rfl rfl ?_
    refine wq_cl 209 d295_206 rfl rfl ?_
    refine wq_a 210 d295_209 rfl rfl ?_
    refine wq_b 218 213 d295_210 rfl (by decide) rfl (fun c210 => ?_) (fun c210 => ?_)
    · -- pc 218
      have f210 : ¬ v = 70 := by have y := c210; rw [lc_z] at y; exact fun q => y ((hx 70 (by decide) (by decide)).mpr q)
      refine wq_l 219 d295_218 rfl rfl rfl rfl ?_
      refine wq_cl 222 d295_219 rfl rfl ?_
      refine wq_a 223 d295_222 rfl rfl ?_
      refine wq_b 230 226 d295_223 rfl (by decide) rfl (fun c223 => ?_) (fun c223 => ?_)
      · -- pc 230
        have f223 : ¬ v = 62 := by have y := c223; rw [lc_z] at y; exact fun q => y ((hx 62 (by decide) (by decide)).mpr q)
        refine wq_k 231 (-1) d295_230 (by decide) rfl ?_
        refine wq_ri d295_231 (rfl) ?_
        first | (have fv : v = 70 := (by omega); rw [fv] at hQ; exact hQ) | (have fv : v = 62 := (by omega); rw [fv] at hQ; exact hQ) | (have e : nq_pin 5 v = -1 := Eq.trans ((if_neg (by decide)).trans ((if_neg (by decide)).trans ((if_neg (by decide)).trans (if_pos (by decide))))) ((if_neg (show ¬ v = 70 by omega)).trans ((if_neg (show ¬ v = 62 by omega)).trans (rfl))); rw [e] at hQ; exact hQ)
      · -- pc 226
        have f223 : v = 62 := by have y := Classical.not_not.mp c223; rw [lc_z] at y; exact (hx 62 (by decide) (by decide)).mp y
        refine wq_k 227 1 d295_226 (by decide) rfl ?_
        refine wq_g 231 d295_227 (by decide) ?_
        refine wq_ri d295_231 (rfl) ?_
        first | (have fv : v = 70 := (by omega); rw [fv] at hQ; exact hQ) | (have fv : v = 62 := (by omega); rw [fv] at hQ; exact hQ) | (have e : nq_pin 5 v = -1 := Eq.trans ((if_neg (by decide)).trans ((if_neg (by decide)).trans ((if_neg (by decide)).trans (if_pos (by decide))))) ((if_neg (show ¬ v = 70 by omega)).trans ((if_neg (show ¬ v = 62 by omega)).trans (rfl))); rw [e] at hQ; exact hQ)
    · -- pc 213
      have f210 : v = 70 := by have y := Classical.not_not.mp c210; rw [lc_z] at y; exact (hx 70 (by decide) (by decide)).mp y
      refine wq_k 215 100 d295_213 (by decide) rfl ?_
      refine wq_g 231 d295_215 (by decide) ?_
      refine wq_ri d295_231 (rfl) ?_
      first | (have fv : v = 70 := (by omega); rw [fv] at hQ; exact hQ) | (have fv : v = 62 := (by omega); rw [fv] at hQ; exact hQ) | (have e : nq_pin 5 v = -1 := Eq.trans ((if_neg (by decide)).trans ((if_neg (by decide)).trans ((if_neg (by decide)).trans (if_pos (by decide))))) ((if_neg (show ¬ v = 70 by omega)).trans ((if_neg (show ¬ v = 62 by omega)).trans (rfl))); rw [e] at hQ; exact hQ)
  · subst h
    refine wq_m m295 (Nat.le_of_ble_eq_true rfl) (by decide) rfl ?_
    refine wq_l 1 d295_0 rfl rfl rfl rfl ?_
    refine wq_k 4 10103 d295_1 (by decide) rfl ?_
    refine wq_b 11 7 d295_4 rfl (by decide) rfl (fun c4 => ?_) (fun c4 => absurd (by decide) c4)
    refine wq_k 12 0 d295_11 (by decide) rfl ?_
    refine wq_s 13 d295_12 rfl rfl (Nat.le_of_ble_eq_true rfl) rfl rfl ?_
    refine wq_l 14 d295_13 rfl rfl rfl rfl ?_
    refine wq_k 17 10103 d295_14 (by decide) rfl ?_
    refine wq_b 27 20 d295_17 rfl (by decide) rfl (fun c17 => absurd c17 (by decide)) (fun c17 => ?_)
    refine wq_l 21 d295_20 rfl rfl rfl rfl ?_
    refine wq_k 24 10104 d295_21 (by decide) rfl ?_
    refine wq_b 31 27 d295_24 rfl (by decide) rfl (fun c24 => ?_) (fun c24 => absurd (by decide) c24)
    refine wq_k 32 0 d295_31 (by decide) rfl ?_
    refine wq_s 34 d295_32 rfl rfl (Nat.le_of_ble_eq_true rfl) rfl rfl ?_
    refine wq_l 35 d295_34 rfl rfl rfl rfl ?_
    refine wq_b 91 38 d295_35 rfl (by decide) rfl (fun c35 => ?_) (fun c35 => absurd (by decide) c35)
    refine wq_l 93 d295_91 rfl rfl rfl rfl ?_
    refine wq_b 198 96 d295_93 rfl (by decide) rfl (fun c93 => ?_) (fun c93 => absurd (by decide) c93)
    refine wq_l 199 d295_198 rfl rfl rfl rfl ?_
    refine wq_k 202 10107 d295_199 (by decide) rfl ?_
    refine wq_b 232 205 d295_202 rfl (by decide) rfl (fun c202 => absurd c202 (by decide)) (fun c202 => ?_)
    refine wq_l 206 d295_205 rfl rfl rfl rfl ?_
    refine wq_cl 209 d295_206 rfl rfl ?_
    refine wq_a 210 d295_209 rfl rfl ?_
    refine wq_b 218 213 d295_210 rfl (by decide) rfl (fun c210 => ?_) (fun c210 => ?_)
    · -- pc 218
      have f210 : ¬ v = 70 := by have y := c210; rw [lc_z] at y; exact fun q => y ((hx 70 (by decide) (by decide)).mpr q)
      refine wq_l 219 d295_218 rfl rfl rfl rfl ?_
      refine wq_cl 222 d295_219 rfl rfl ?_
      refine wq_a 223 d295_222 rfl rfl ?_
      refine wq_b 230 226 d295_223 rfl (by decide) rfl (fun c223 => ?_) (fun c223 => ?_)
      · -- pc 230
        have f223 : ¬ v = 62 := by have y := c223; rw [lc_z] at y; exact fun q => y ((hx 62 (by decide) (by decide)).mpr q)
        refine wq_k 231 (-1) d295_230 (by decide) rfl ?_
        refine wq_ri d295_231 (rfl) ?_
        first | (have fv : v = 70 := (by omega); rw [fv] at hQ; exact hQ) | (have fv : v = 62 := (by omega); rw [fv] at hQ; exact hQ) | (have e : nq_pin 6 v = -1 := Eq.trans ((if_neg (by decide)).trans ((if_neg (by decide)).trans ((if_neg (by decide)).trans (if_pos (by decide))))) ((if_neg (show ¬ v = 70 by omega)).trans ((if_neg (show ¬ v = 62 by omega)).trans (rfl))); rw [e] at hQ; exact hQ)
      · -- pc 226
        have f223 : v = 62 := by have y := Classical.not_not.mp c223; rw [lc_z] at y; exact (hx 62 (by decide) (by decide)).mp y
        refine wq_k 227 1 d295_226 (by decide) rfl ?_
        refine wq_g 231 d295_227 (by decide) ?_
        refine wq_ri d295_231 (rfl) ?_
        first | (have fv : v = 70 := (by omega); rw [fv] at hQ; exact hQ) | (have fv : v = 62 := (by omega); rw [fv] at hQ; exact hQ) | (have e : nq_pin 6 v = -1 := Eq.trans ((if_neg (by decide)).trans ((if_neg (by decide)).trans ((if_neg (by decide)).trans (if_pos (by decide))))) ((if_neg (show ¬ v = 70 by omega)).trans ((if_neg (show ¬ v = 62 by omega)).trans (rfl))); rw [e] at hQ; exact hQ)
    · -- pc 213
      have f210 : v = 70 := by have y := Classical.not_not.mp c210; rw [lc_z] at y; exact (hx 70 (by decide) (by decide)).mp y
      refine wq_k 215 100 d295_213 (by decide) rfl ?_
      refine wq_g 231 d295_215 (by decide) ?_
      refine wq_ri d295_231 (rfl) ?_
      first | (have fv : v = 70 := (by omega); rw [fv] at hQ; exact hQ) | (have fv : v = 62 := (by omega); rw [fv] at hQ; exact hQ) | (have e : nq_pin 6 v = -1 := Eq.trans ((if_neg (by decide)).trans ((if_neg (by decide)).trans ((if_neg (by decide)).trans (if_pos (by decide))))) ((if_neg (show ¬ v = 70 by omega)).trans ((if_neg (show ¬ v = 62 by omega)).trans (rfl))); rw [e] at hQ; exact hQ)
  · subst h
    refine wq_m m295 (Nat.le_of_ble_eq_true rfl) (by decide) rfl ?_
    refine wq_l 1 d295_0 rfl rfl rfl rfl ?_
    refine wq_k 4 10103 d295_1 (by decide) rfl ?_
    refine wq_b 11 7 d295_4 rfl (by decide) rfl (fun c4 => ?_) (fun c4 => absurd (by decide) c4)
    refine wq_k 12 0 d295_11 (by decide) rfl ?_
    refine wq_s 13 d295_12 rfl rfl (Nat.le_of_ble_eq_true rfl) rfl rfl ?_
    refine wq_l 14 d295_13 rfl rfl rfl rfl ?_
    refine wq_k 17 10103 d295_14 (by decide) rfl ?_
    refine wq_b 27 20 d295_17 rfl (by decide) rfl (fun c17 => absurd c17 (by decide)) (fun c17 => ?_)
    refine wq_l 21 d295_20 rfl rfl rfl rfl ?_
    refine wq_k 24 10104 d295_21 (by decide) rfl ?_
    refine wq_b 31 27 d295_24 rfl (by decide) rfl (fun c24 => ?_) (fun c24 => absurd (by decide) c24)
    refine wq_k 32 0 d295_31 (by decide) rfl ?_
    refine wq_s 34 d295_32 rfl rfl (Nat.le_of_ble_eq_true rfl) rfl rfl ?_
    refine wq_l 35 d295_34 rfl rfl rfl rfl ?_
    refine wq_b 91 38 d295_35 rfl (by decide) rfl (fun c35 => ?_) (fun c35 => absurd (by decide) c35)
    refine wq_l 93 d295_91 rfl rfl rfl rfl ?_
    refine wq_b 198 96 d295_93 rfl (by decide) rfl (fun c93 => ?_) (fun c93 => absurd (by decide) c93)
    refine wq_l 199 d295_198 rfl rfl rfl rfl ?_
    refine wq_k 202 10107 d295_199 (by decide) rfl ?_
    refine wq_b 232 205 d295_202 rfl (by decide) rfl (fun c202 => ?_) (fun c202 => absurd (by decide) c202)
    refine wq_l 233 d295_232 rfl rfl rfl rfl ?_
    refine wq_k 236 10107 d295_233 (by decide) rfl ?_
    refine wq_b 243 239 d295_236 rfl (by decide) rfl (fun c236 => absurd c236 (by decide)) (fun c236 => ?_)
    refine wq_k 240 1 d295_239 (by decide) rfl ?_
    refine wq_g 244 d295_240 (by decide) ?_
    refine wq_s 246 d295_244 rfl rfl (Nat.le_of_ble_eq_true rfl) rfl rfl ?_
    refine wq_l 247 d295_246 rfl rfl rfl rfl ?_
    refine wq_l 249 d295_247 rfl rfl rfl rfl ?_
    refine wq_b 258 252 d295_249 rfl (by decide) rfl (fun c249 => absurd c249 (by decide)) (fun c249 => ?_)
    refine wq_cl 255 d295_252 rfl rfl ?_
    refine wq_g 261 d295_255 (by decide) ?_
    refine wq_a 262 d295_261 rfl rfl ?_
    refine wq_b 270 265 d295_262 rfl (by decide) rfl (fun c262 => ?_) (fun c262 => ?_)
    · -- pc 270
      have f262 : ¬ v = 71 := by have y := c262; rw [lc_z] at y; exact fun q => y ((hx 71 (by decide) (by decide)).mpr q)
      refine wq_l 271 d295_270 rfl rfl rfl rfl ?_
      refine wq_l 273 d295_271 rfl rfl rfl rfl ?_
      refine wq_b 282 276 d295_273 rfl (by decide) rfl (fun c273 => absurd c273 (by decide)) (fun c273 => ?_)
      refine wq_cl 279 d295_276 rfl rfl ?_
      refine wq_g 285 d295_279 (by decide) ?_
      refine wq_a 286 d295_285 rfl rfl ?_
      refine wq_b 294 289 d295_286 rfl (by decide) rfl (fun c286 => ?_) (fun c286 => ?_)
      · -- pc 294
        have f286 : ¬ v = 65 := by have y := c286; rw [lc_z] at y; exact fun q => y ((hx 65 (by decide) (by decide)).mpr q)
        refine wq_l 295 d295_294 rfl rfl rfl rfl ?_
        refine wq_cl 298 d295_295 rfl rfl ?_
        refine wq_a 299 d295_298 rfl rfl ?_
        refine wq_b 306 302 d295_299 rfl (by decide) rfl (fun c299 => ?_) (fun c299 => ?_)
        · -- pc 306
          have f299 : ¬ v = 72 := by have y := c299; rw [lc_z] at y; exact fun q => y ((hx 72 (by decide) (by decide)).mpr q)
          refine wq_k 307 (-1) d295_306 (by decide) rfl ?_
          refine wq_ri d295_307 (rfl) ?_
          first | (have fv : v = 71 := (by omega); rw [fv] at hQ; exact hQ) | (have fv : v = 65 := (by omega); rw [fv] at hQ; exact hQ) | (have fv : v = 72 := (by omega); rw [fv] at hQ; exact hQ) | (have e : nq_pin 7 v = -1 := Eq.trans ((if_neg (by decide)).trans ((if_neg (by decide)).trans ((if_neg (by decide)).trans ((if_neg (by decide)).trans (if_pos (by decide)))))) ((if_neg (show ¬ v = 71 by omega)).trans ((if_neg (show ¬ v = 65 by omega)).trans ((if_neg (show ¬ v = 72 by omega)).trans (rfl)))); rw [e] at hQ; exact hQ)
        · -- pc 302
          have f299 : v = 72 := by have y := Classical.not_not.mp c299; rw [lc_z] at y; exact (hx 72 (by decide) (by decide)).mp y
          refine wq_k 303 2 d295_302 (by decide) rfl ?_
          refine wq_g 307 d295_303 (by decide) ?_
          refine wq_ri d295_307 (rfl) ?_
          first | (have fv : v = 71 := (by omega); rw [fv] at hQ; exact hQ) | (have fv : v = 65 := (by omega); rw [fv] at hQ; exact hQ) | (have fv : v = 72 := (by omega); rw [fv] at hQ; exact hQ) | (have e : nq_pin 7 v = -1 := Eq.trans ((if_neg (by decide)).trans ((if_neg (by decide)).trans ((if_neg (by decide)).trans ((if_neg (by decide)).trans (if_pos (by decide)))))) ((if_neg (show ¬ v = 71 by omega)).trans ((if_neg (show ¬ v = 65 by omega)).trans ((if_neg (show ¬ v = 72 by omega)).trans (rfl)))); rw [e] at hQ; exact hQ)
      · -- pc 289
        have f286 : v = 65 := by have y := Classical.not_not.mp c286; rw [lc_z] at y; exact (hx 65 (by decide) (by decide)).mp y
        refine wq_k 291 101 d295_289 (by decide) rfl ?_
        refine wq_g 307 d295_291 (by decide) ?_
        refine wq_ri d295_307 (rfl) ?_
        first | (have fv : v = 71 := (by omega); rw [fv] at hQ; exact hQ) | (have fv : v = 65 := (by omega); rw [fv] at hQ; exact hQ) | (have fv : v = 72 := (by omega); rw [fv] at hQ; exact hQ) | (have e : nq_pin 7 v = -1 := Eq.trans ((if_neg (by decide)).trans ((if_neg (by decide)).trans ((if_neg (by decide)).trans ((if_neg (by decide)).trans (if_pos (by decide)))))) ((if_neg (show ¬ v = 71 by omega)).trans ((if_neg (show ¬ v = 65 by omega)).trans ((if_neg (show ¬ v = 72 by omega)).trans (rfl)))); rw [e] at hQ; exact hQ)
    · -- pc 265
      have f262 : v = 71 := by have y := Classical.not_not.mp c262; rw [lc_z] at y; exact (hx 71 (by decide) (by decide)).mp y
      refine wq_k 267 100 d295_265 (by decide) rfl ?_
      refine wq_g 307 d295_267 (by decide) ?_
      refine wq_ri d295_307 (rfl) ?_
      first | (have fv : v = 71 := (by omega); rw [fv] at hQ; exact hQ) | (have fv : v = 65 := (by omega); rw [fv] at hQ; exact hQ) | (have fv : v = 72 := (by omega); rw [fv] at hQ; exact hQ) | (have e : nq_pin 7 v = -1 := Eq.trans ((if_neg (by decide)).trans ((if_neg (by decide)).trans ((if_neg (by decide)).trans ((if_neg (by decide)).trans (if_pos (by decide)))))) ((if_neg (show ¬ v = 71 by omega)).trans ((if_neg (show ¬ v = 65 by omega)).trans ((if_neg (show ¬ v = 72 by omega)).trans (rfl)))); rw [e] at hQ; exact hQ)
  · subst h
    refine wq_m m295 (Nat.le_of_ble_eq_true rfl) (by decide) rfl ?_
    refine wq_l 1 d295_0 rfl rfl rfl rfl ?_
    refine wq_k 4 10103 d295_1 (by decide) rfl ?_
    refine wq_b 11 7 d295_4 rfl (by decide) rfl (fun c4 => ?_) (fun c4 => absurd (by decide) c4)
    refine wq_k 12 0 d295_11 (by decide) rfl ?_
    refine wq_s 13 d295_12 rfl rfl (Nat.le_of_ble_eq_true rfl) rfl rfl ?_
    refine wq_l 14 d295_13 rfl rfl rfl rfl ?_
    refine wq_k 17 10103 d295_14 (by decide) rfl ?_
    refine wq_b 27 20 d295_17 rfl (by decide) rfl (fun c17 => absurd c17 (by decide)) (fun c17 => ?_)
    refine wq_l 21 d295_20 rfl rfl rfl rfl ?_
    refine wq_k 24 10104 d295_21 (by decide) rfl ?_
    refine wq_b 31 27 d295_24 rfl (by decide) rfl (fun c24 => ?_) (fun c24 => absurd (by decide) c24)
    refine wq_k 32 0 d295_31 (by decide) rfl ?_
    refine wq_s 34 d295_32 rfl rfl (Nat.le_of_ble_eq_true rfl) rfl rfl ?_
    refine wq_l 35 d295_34 rfl rfl rfl rfl ?_
    refine wq_b 91 38 d295_35 rfl (by decide) rfl (fun c35 => ?_) (fun c35 => absurd (by decide) c35)
    refine wq_l 93 d295_91 rfl rfl rfl rfl ?_
    refine wq_b 198 96 d295_93 rfl (by decide) rfl (fun c93 => ?_) (fun c93 => absurd (by decide) c93)
    refine wq_l 199 d295_198 rfl rfl rfl rfl ?_
    refine wq_k 202 10107 d295_199 (by decide) rfl ?_
    refine wq_b 232 205 d295_202 rfl (by decide) rfl (fun c202 => ?_) (fun c202 => absurd (by decide) c202)
    refine wq_l 233 d295_232 rfl rfl rfl rfl ?_
    refine wq_k 236 10107 d295_233 (by decide) rfl ?_
    refine wq_b 243 239 d295_236 rfl (by decide) rfl (fun c236 => ?_) (fun c236 => absurd (by decide) c236)
    refine wq_k 244 0 d295_243 (by decide) rfl ?_
    refine wq_s 246 d295_244 rfl rfl (Nat.le_of_ble_eq_true rfl) rfl rfl ?_
    refine wq_l 247 d295_246 rfl rfl rfl rfl ?_
    refine wq_l 249 d295_247 rfl rfl rfl rfl ?_
    refine wq_b 258 252 d295_249 rfl (by decide) rfl (fun c249 => ?_) (fun c249 => absurd (by decide) c249)
    refine wq_cl 261 d295_258 rfl rfl ?_
    refine wq_a 262 d295_261 rfl rfl ?_
    refine wq_b 270 265 d295_262 rfl (by decide) rfl (fun c262 => ?_) (fun c262 => ?_)
    · -- pc 270
      have f262 : ¬ v = 73 := by have y := c262; rw [lc_z] at y; exact fun q => y ((hx 73 (by decide) (by decide)).mpr q)
      refine wq_l 271 d295_270 rfl rfl rfl rfl ?_
      refine wq_l 273 d295_271 rfl rfl rfl rfl ?_
      refine wq_b 282 276 d295_273 rfl (by decide) rfl (fun c273 => ?_) (fun c273 => absurd (by decide) c273)
      refine wq_cl 285 d295_282 rfl rfl ?_
      refine wq_a 286 d295_285 rfl rfl ?_
      refine wq_b 294 289 d295_286 rfl (by decide) rfl (fun c286 => ?_) (fun c286 => ?_)
      · -- pc 294
        have f286 : ¬ v = 74 := by have y := c286; rw [lc_z] at y; exact fun q => y ((hx 74 (by decide) (by decide)).mpr q)
        refine wq_l 295 d295_294 rfl rfl rfl rfl ?_
        refine wq_cl 298 d295_295 rfl rfl ?_
        refine wq_a 299 d295_298 rfl rfl ?_
        refine wq_b 306 302 d295_299 rfl (by decide) rfl (fun c299 => ?_) (fun c299 => ?_)
        · -- pc 306
          have f299 : ¬ v = 72 := by have y := c299; rw [lc_z] at y; exact fun q => y ((hx 72 (by decide) (by decide)).mpr q)
          refine wq_k 307 (-1) d295_306 (by decide) rfl ?_
          refine wq_ri d295_307 (rfl) ?_
          first | (have fv : v = 73 := (by omega); rw [fv] at hQ; exact hQ) | (have fv : v = 74 := (by omega); rw [fv] at hQ; exact hQ) | (have fv : v = 72 := (by omega); rw [fv] at hQ; exact hQ) | (have e : nq_pin 8 v = -1 := Eq.trans ((if_neg (by decide)).trans ((if_neg (by decide)).trans ((if_neg (by decide)).trans ((if_neg (by decide)).trans (if_neg (by decide)))))) ((if_neg (show ¬ v = 73 by omega)).trans ((if_neg (show ¬ v = 74 by omega)).trans ((if_neg (show ¬ v = 72 by omega)).trans (rfl)))); rw [e] at hQ; exact hQ)
        · -- pc 302
          have f299 : v = 72 := by have y := Classical.not_not.mp c299; rw [lc_z] at y; exact (hx 72 (by decide) (by decide)).mp y
          refine wq_k 303 2 d295_302 (by decide) rfl ?_
          refine wq_g 307 d295_303 (by decide) ?_
          refine wq_ri d295_307 (rfl) ?_
          first | (have fv : v = 73 := (by omega); rw [fv] at hQ; exact hQ) | (have fv : v = 74 := (by omega); rw [fv] at hQ; exact hQ) | (have fv : v = 72 := (by omega); rw [fv] at hQ; exact hQ) | (have e : nq_pin 8 v = -1 := Eq.trans ((if_neg (by decide)).trans ((if_neg (by decide)).trans ((if_neg (by decide)).trans ((if_neg (by decide)).trans (if_neg (by decide)))))) ((if_neg (show ¬ v = 73 by omega)).trans ((if_neg (show ¬ v = 74 by omega)).trans ((if_neg (show ¬ v = 72 by omega)).trans (rfl)))); rw [e] at hQ; exact hQ)
      · -- pc 289
        have f286 : v = 74 := by have y := Classical.not_not.mp c286; rw [lc_z] at y; exact (hx 74 (by decide) (by decide)).mp y
        refine wq_k 291 101 d295_289 (by decide) rfl ?_
        refine wq_g 307 d295_291 (by decide) ?_
        refine wq_ri d295_307 (rfl) ?_
        first | (have fv : v = 73 := (by omega); rw [fv] at hQ; exact hQ) | (have fv : v = 74 := (by omega); rw [fv] at hQ; exact hQ) | (have fv : v = 72 := (by omega); rw [fv] at hQ; exact hQ) | (have e : nq_pin 8 v = -1 := Eq.trans ((if_neg (by decide)).trans ((if_neg (by decide)).trans ((if_neg (by decide)).trans ((if_neg (by decide)).trans (if_neg (by decide)))))) ((if_neg (show ¬ v = 73 by omega)).trans ((if_neg (show ¬ v = 74 by omega)).trans ((if_neg (show ¬ v = 72 by omega)).trans (rfl)))); rw [e] at hQ; exact hQ)
    · -- pc 265
      have f262 : v = 73 := by have y := Classical.not_not.mp c262; rw [lc_z] at y; exact (hx 73 (by decide) (by decide)).mp y
      refine wq_k 267 100 d295_265 (by decide) rfl ?_
      refine wq_g 307 d295_267 (by decide) ?_
      refine wq_ri d295_307 (rfl) ?_
      first | (have fv : v = 73 := (by omega); rw [fv] at hQ; exact hQ) | (have fv : v = 74 := (by omega); rw [fv] at hQ; exact hQ) | (have fv : v = 72 := (by omega); rw [fv] at hQ; exact hQ) | (have e : nq_pin 8 v = -1 := Eq.trans ((if_neg (by decide)).trans ((if_neg (by decide)).trans ((if_neg (by decide)).trans ((if_neg (by decide)).trans (if_neg (by decide)))))) ((if_neg (show ¬ v = 73 by omega)).trans ((if_neg (show ¬ v = 74 by omega)).trans ((if_neg (show ¬ v = 72 by omega)).trans (rfl)))); rw [e] at hQ; exact hQ)
