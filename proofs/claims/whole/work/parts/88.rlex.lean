/-! A NAME MORE -/
def rx_ad (σ : pm_S) (c a n b : Nat) (cd : Int64) : pm_S := pm_pi (pm_pr (pm_pr (pm_plr (pm_pr (pm_pr σ 44 (upd (σ.2.2 44) c (nI a))) 45 (upd (σ.2.2 45) c (nI n))) 47 (vp_updL (σ.2.1 47) c cd)) 46 (upd (σ.2.2 46) c (σ.2.2 48 b))) 48 (upd (σ.2.2 48) b (nI c))) 10 9 (nI (c + 1))
def rx_Fr (σ σ' : pm_S) : Prop := (∀ a b, ¬ (a = 10 ∧ b = 9) → σ'.1 a b = σ.1 a b) ∧ (∀ k, k ≠ 47 → σ'.2.1 k = σ.2.1 k) ∧ ∀ k, k ≠ 44 → k ≠ 45 → k ≠ 46 → k ≠ 48 → σ'.2.2 k = σ.2.2 k
theorem rx_ad_F {σ : pm_S} {c a n b : Nat} {cd : Int64} : rx_Fr σ (rx_ad σ c a n b cd) := by
  refine ⟨fun x y h => ?_, fun k h => ?_, fun k h1 h2 h3 h4 => ?_⟩
  · show (if x = 10 then (if y = 9 then _ else σ.1 x y) else σ.1 x y) = _
    by_cases q : x = 10
    · rw [if_pos q, if_neg (fun z => h ⟨q, z⟩)]
    · rw [if_neg q]
  · show (if k = 47 then _ else σ.2.1 k) = _
    rw [if_neg h]
  · show (pm_pr (pm_pr (pm_plr (pm_pr (pm_pr σ 44 _) 45 _) 47 _) 46 _) 48 _).2.2 k = _
    rw [pm_rne h4, pm_rne h3]
    show (pm_pr (pm_pr σ 44 _) 45 _).2.2 k = _
    rw [pm_rne h2, pm_rne h1]
theorem vp_usL {f : Nat → Int64} {k : Nat} {x : Int64} : vp_updL f k x k = x := by simp [vp_updL]
theorem vp_unL {f : Nat → Int64} {k j : Nat} {x : Int64} (h : j ≠ k) : vp_updL f k x j = f j := by simp [vp_updL, h]
theorem rx_ad_N {σ : pm_S} {t : Nat → Nat} {M a n b : Nat} {ps : List (Nat × Nat)} (hN : rx_N σ t M ps) (hl : ps.length < 4200) (hn : a + n ≤ M) (hb : b < 4096) (eb : rx_hh t (a, n) = nI b) : rx_N (rx_ad σ ps.length a n b (rx_cd (rx_wd t (a, n)))) t M (ps ++ [(a, n)]) := by
  obtain ⟨n1, n2, n3, n4⟩ := hN
  have hlen : (ps ++ [(a, n)]).length = ps.length + 1 := by rw [List.length_append]; rfl
  refine ⟨by rw [hlen]; rfl, by omega, fun i p hp => ?_, fun b' hb' => ?_⟩
  · show upd (σ.2.2 44) ps.length (nI a) i = _ ∧ upd (σ.2.2 45) ps.length (nI n) i = _ ∧ vp_updL (σ.2.1 47) ps.length _ i = _ ∧ _
    by_cases q : i = ps.length
    · subst q
      rw [List.getElem?_append_right (Nat.le_refl _), Nat.sub_self] at hp
      cases hp
      rw [pk_us, pk_us, vp_usL]
      exact ⟨rfl, rfl, rfl, hn⟩
    · have hi : i < ps.length := by
        rcases Nat.lt_or_ge i ps.length with z | z
        · exact z
        · rw [List.getElem?_eq_none (by omega)] at hp; cases hp
      rw [List.getElem?_append_left hi] at hp
      rw [pk_un q, pk_un q, vp_unL q]
      exact n3 i p hp
  · show ∃ l, nm_C (upd (σ.2.2 46) ps.length (σ.2.2 48 b)) (upd (σ.2.2 48) b (nI ps.length) b') l ∧ _
    obtain ⟨l, c1, c2⟩ := n4 b' hb'
    have hlt : ∀ x ∈ l, x < ps.length := fun x hx => by
      obtain ⟨p, hp, _⟩ := (c2 x).mp hx
      exact (List.getElem?_eq_some_iff.mp hp).1
    have keep : ∀ (l : List Nat) (v : Int32), (∀ x ∈ l, x < ps.length) → nm_C (σ.2.2 46) v l → nm_C (upd (σ.2.2 46) ps.length (σ.2.2 48 b)) v l := fun l v hl h => nm_C_keep l v (fun x hx => pk_un (by have := hl x hx; omega)) h
    have old : ∀ x, x < ps.length → ((∃ p, (ps ++ [(a, n)])[x]? = some p ∧ rx_hh t p = nI b') ↔ ∃ p, ps[x]? = some p ∧ rx_hh t p = nI b') := fun x hx => by rw [List.getElem?_append_left hx]
    by_cases q : b' = b
    · subst q
      rw [pk_us]
      refine ⟨ps.length :: l, ⟨rfl, ?_⟩, fun x => ?_⟩
      · rw [pk_us]; exact keep l _ hlt c1
      · constructor
        · intro hx
          rcases List.mem_cons.mp hx with z | z
          · subst z
            exact ⟨(a, n), by rw [List.getElem?_append_right (Nat.le_refl _), Nat.sub_self]; rfl, eb⟩
          · exact (old x (hlt x z)).mpr ((c2 x).mp z)
        · rintro ⟨p, hp, hh⟩
          by_cases w : x < ps.length
          · exact List.mem_cons_of_mem _ ((c2 x).mpr ((old x w).mp ⟨p, hp, hh⟩))
          · have : x = ps.length := by
              rcases Nat.lt_or_ge ps.length x with z | z
              · rw [List.getElem?_eq_none (by omega)] at hp; cases hp
              · omega
            rw [this]; exact List.mem_cons_self ..
    · rw [pk_un q]
      refine ⟨l, keep l _ hlt c1, fun x => ?_⟩
      constructor
      · intro hx; exact (old x (hlt x hx)).mpr ((c2 x).mp hx)
      · rintro ⟨p, hp, hh⟩
        by_cases w : x < ps.length
        · exact (c2 x).mpr ((old x w).mp ⟨p, hp, hh⟩)
        · exfalso
          have : x = ps.length := by
            rcases Nat.lt_or_ge ps.length x with z | z
            · rw [List.getElem?_eq_none (by omega)] at hp; cases hp
            · omega
          subst this
          rw [List.getElem?_append_right (Nat.le_refl _), Nat.sub_self] at hp
          cases hp
          exact q ((nI_eq (by omega) (by omega)).mp (hh.symm.trans eb))
theorem sp220 {d : Nat} {σ : pm_S} {Q : Option Value → pm_S → Prop} {t : Nat → Nat} {M : Nat} {a n : Nat} {ps : List (Nat × Nat)} (hT : rx_T σ t M) (hn : a + n ≤ M) (hN : rx_N σ t M ps) (h1 : ∀ (i : Nat) (p : Nat × Nat), ps[i]? = some p → rx_wd t p = rx_wd t (a, n) → Q (some (.int (nI i))) σ) (h2 : (∀ p ∈ ps, ¬ rx_wd t p = rx_wd t (a, n)) → ps.length < 4200 ∧ ∀ σ', rx_N σ' t M (ps ++ [(a, n)]) → rx_Fr σ σ' → Q (some (.int (nI ps.length))) σ') : pm_call pm_Y0 (d + 2) 220 [.ref 10, .int (nI a), .int (nI n), .long (rx_cd (rx_wd t (a, n)))] σ Q := by
  have hM := hT.2.1
  have hN' := hN
  obtain ⟨n1, n2, n3, n4⟩ := hN'
  obtain ⟨b, hb, eb⟩ : ∃ b, b < 4096 ∧ rx_hh t (a, n) = nI b := pk_andE _ (m := 4095) 12 rfl
  have eb' : nm_h t 0 a n &&& 4095 = nI b := eb
  obtain ⟨l, l1, l2⟩ := n4 b hb
  have ebt := nI_toInt (n := b) (by omega)
  refine wq_m m220 (Nat.le_of_ble_eq_true rfl) (by decide) rfl ?_
  refine wq_k 1 0 d220_0 (by decide) rfl ?_
  refine wq_s 3 d220_1 rfl rfl (Nat.le_of_ble_eq_true rfl) rfl rfl ?_
  refine wq_l 4 d220_3 rfl rfl rfl rfl ?_
  refine wq_s 6 d220_4 rfl rfl (Nat.le_of_ble_eq_true rfl) rfl rfl ?_
  refine rx_n6 hT hn n a 0 (by omega) ?_
  refine wq_l 40 d220_38 rfl rfl rfl rfl ?_
  refine wq_k 43 4095 d220_40 (by decide) rfl ?_
  refine wq_a 44 d220_43 rfl rfl ?_
  rw [eb']
  refine wq_s 46 d220_44 rfl rfl (Nat.le_of_ble_eq_true rfl) rfl rfl ?_
  refine wq_l 47 d220_46 rfl rfl rfl rfl ?_
  refine wq_gr (ci := 10) (j := 14) (q := 48) 50 d220_47 rfl rfl rfl rfl ?_
  refine wq_l 52 d220_50 rfl rfl rfl rfl ?_
  refine wq_al 53 d220_52 rfl rfl rfl (vp_in_iff.mpr (by simp only [i_lt, i_le, i_eq, ne_eq, Int32.reduceToInt, b2_0, b2_1, decide_eq_true_eq, decide_eq_false_iff_not, Bool.not_eq_true, Bool.not_eq_false, ebt] at * <;> omega)) ?_
  rw [nI_clamp (by omega)]
  refine wq_s 55 d220_53 rfl rfl (Nat.le_of_ble_eq_true rfl) rfl rfl ?_
  refine rx_n55 hT hn hN h1 l _ _ _ l1 (fun x hx => ?_) (fun hnl x6 x7 x8 => ?_) (Or.inl rfl)
  · obtain ⟨p, hp, _⟩ := (l2 x).mp hx
    exact (List.getElem?_eq_some_iff.mp hp).1
  · have hno : ∀ p ∈ ps, ¬ rx_wd t p = rx_wd t (a, n) := fun p hp he => by
      obtain ⟨i, hi⟩ := List.getElem?_of_mem hp
      exact hnl i ((l2 i).mpr ⟨p, hi, by rw [rx_hw he, eb]⟩) p hi he
    obtain ⟨hlt, hq⟩ := h2 hno
    have ec := nI_toInt (n := ps.length) (by omega)
    have eck := nI_clamp (n := ps.length) (by omega)
    have ebk := nI_clamp (n := b) (by omega)
    have hq := hq _ (rx_ad_N hN hlt hn hb eb) rx_ad_F
    refine wq_l 159 d220_158 rfl rfl rfl rfl ?_
    refine wq_gr (ci := 10) (j := 10) (q := 44) 162 d220_159 rfl rfl rfl rfl ?_
    refine wq_l 163 d220_162 rfl rfl rfl rfl ?_
    refine wq_gi (ci := 10) (j := 9) 166 d220_163 rfl rfl rfl rfl ?_
    simp only [pm_r1r, show ∀ (τ : pm_S) (f : Nat → Int64), (pm_plr τ 47 f).1 = τ.1 from fun _ _ => rfl, n1]
    refine wq_l 167 d220_166 rfl rfl rfl rfl ?_
    refine wq_as 168 d220_167 rfl rfl rfl (vp_in_iff.mpr (by simp only [i_lt, i_le, i_eq, ne_eq, Int32.reduceToInt, b2_0, b2_1, decide_eq_true_eq, decide_eq_false_iff_not, Bool.not_eq_true, Bool.not_eq_false, ec] at * <;> omega)) ?_
    rw [eck]
    refine wq_l 169 d220_168 rfl rfl rfl rfl ?_
    refine wq_gr (ci := 10) (j := 11) (q := 45) 172 d220_169 rfl rfl rfl rfl ?_
    refine wq_l 173 d220_172 rfl rfl rfl rfl ?_
    refine wq_gi (ci := 10) (j := 9) 176 d220_173 rfl rfl rfl rfl ?_
    simp only [pm_r1r, show ∀ (τ : pm_S) (f : Nat → Int64), (pm_plr τ 47 f).1 = τ.1 from fun _ _ => rfl, n1]
    refine wq_l 177 d220_176 rfl rfl rfl rfl ?_
    refine wq_as 178 d220_177 rfl rfl rfl (vp_in_iff.mpr (by simp only [i_lt, i_le, i_eq, ne_eq, Int32.reduceToInt, b2_0, b2_1, decide_eq_true_eq, decide_eq_false_iff_not, Bool.not_eq_true, Bool.not_eq_false, ec] at * <;> omega)) ?_
    rw [eck]
    refine wq_l 179 d220_178 rfl rfl rfl rfl ?_
    refine wq_gr (ci := 10) (j := 13) (q := 47) 182 d220_179 rfl rfl rfl rfl ?_
    refine wq_l 183 d220_182 rfl rfl rfl rfl ?_
    refine wq_gi (ci := 10) (j := 9) 186 d220_183 rfl rfl rfl rfl ?_
    simp only [pm_r1r, show ∀ (τ : pm_S) (f : Nat → Int64), (pm_plr τ 47 f).1 = τ.1 from fun _ _ => rfl, n1]
    refine wq_l 187 d220_186 rfl rfl rfl rfl ?_
    refine wq_lw 188 d220_187 rfl rfl (vp_in_iff.mpr (by simp only [i_lt, i_le, i_eq, ne_eq, Int32.reduceToInt, b2_0, b2_1, decide_eq_true_eq, decide_eq_false_iff_not, Bool.not_eq_true, Bool.not_eq_false, ec] at * <;> omega)) ?_
    rw [eck]
    refine wq_l 189 d220_188 rfl rfl rfl rfl ?_
    refine wq_gr (ci := 10) (j := 12) (q := 46) 192 d220_189 rfl rfl rfl rfl ?_
    refine wq_l 193 d220_192 rfl rfl rfl rfl ?_
    refine wq_gi (ci := 10) (j := 9) 196 d220_193 rfl rfl rfl rfl ?_
    simp only [pm_r1r, show ∀ (τ : pm_S) (f : Nat → Int64), (pm_plr τ 47 f).1 = τ.1 from fun _ _ => rfl, n1]
    refine wq_l 197 d220_196 rfl rfl rfl rfl ?_
    refine wq_gr (ci := 10) (j := 14) (q := 48) 200 d220_197 rfl rfl rfl rfl ?_
    refine wq_l 202 d220_200 rfl rfl rfl rfl ?_
    refine wq_al 203 d220_202 rfl rfl rfl (vp_in_iff.mpr (by simp only [i_lt, i_le, i_eq, ne_eq, Int32.reduceToInt, b2_0, b2_1, decide_eq_true_eq, decide_eq_false_iff_not, Bool.not_eq_true, Bool.not_eq_false, ebt] at * <;> omega)) ?_
    rw [ebk]
    refine wq_as 204 d220_203 rfl rfl rfl (vp_in_iff.mpr (by simp only [i_lt, i_le, i_eq, ne_eq, Int32.reduceToInt, b2_0, b2_1, decide_eq_true_eq, decide_eq_false_iff_not, Bool.not_eq_true, Bool.not_eq_false, ec] at * <;> omega)) ?_
    rw [eck]
    refine wq_l 205 d220_204 rfl rfl rfl rfl ?_
    refine wq_gr (ci := 10) (j := 14) (q := 48) 208 d220_205 rfl rfl rfl rfl ?_
    refine wq_l 210 d220_208 rfl rfl rfl rfl ?_
    refine wq_l 211 d220_210 rfl rfl rfl rfl ?_
    refine wq_gi (ci := 10) (j := 9) 214 d220_211 rfl rfl rfl rfl ?_
    simp only [pm_r1r, show ∀ (τ : pm_S) (f : Nat → Int64), (pm_plr τ 47 f).1 = τ.1 from fun _ _ => rfl, n1]
    refine wq_as 215 d220_214 rfl rfl rfl (vp_in_iff.mpr (by simp only [i_lt, i_le, i_eq, ne_eq, Int32.reduceToInt, b2_0, b2_1, decide_eq_true_eq, decide_eq_false_iff_not, Bool.not_eq_true, Bool.not_eq_false, ebt] at * <;> omega)) ?_
    rw [ebk]
    refine wq_l 216 d220_215 rfl rfl rfl rfl ?_
    refine wq_a 217 d220_216 rfl rfl ?_
    refine wq_gi (ci := 10) (j := 9) 220 d220_217 rfl rfl rfl rfl ?_
    simp only [pm_r1r, show ∀ (τ : pm_S) (f : Nat → Int64), (pm_plr τ 47 f).1 = τ.1 from fun _ _ => rfl, n1]
    refine wq_k 221 1 d220_220 (by decide) rfl ?_
    refine wq_a 222 d220_221 rfl rfl ?_
    rw [show nI ps.length + 1 = nI (ps.length + 1) from (nI_succ _).symm]
    refine wq_pf (ci := 10) (j := 9) 225 d220_222 rfl rfl rfl ⟨rfl, rfl⟩ rfl ?_
    refine wq_l 226 d220_225 rfl rfl rfl rfl ?_
    refine wq_gi (ci := 10) (j := 9) 229 d220_226 rfl rfl rfl rfl ?_
    refine wq_k 230 1 d220_229 (by decide) rfl ?_
    refine wq_a 231 d220_230 rfl rfl ?_
    rw [show ∀ (τ : pm_S), (pm_pi τ 10 9 (nI (ps.length + 1))).1 10 9 - 1 = nI ps.length from fun _ => nI_pred _]
    exact wq_ri d220_231 rfl hq
