/-- a free tree put below a new free node, and what came behind it -/
theorem rp_Ox {t : Nat → Nat} {M n : Nat} {σ0 σ1 σ2 σ3 σ4 σ5 : pm_S} {h0 h1 h5 : rp_H} {e k p : Nat} {y z v : Int32} {l l2 : List pg_N} (hK : rh_K σ1 h1.1 h1.2) (o : rp_O t M n σ0 h0 σ1 h1 e l) (m : rp_M σ1 h1.1 σ2 (nI k) y z) (kk : rp_K σ2 σ3) (F : rh_F σ3 σ4) (g : rp_E t M n σ4 (rp_ad (rp_nw h1) h1.1 e) σ5 h5 h1.1 l2) (hy : σ5.1 10 6 = 0 → y = nI p ∧ rp_V t M n k z v) : rp_O t M n σ0 h0 σ5 h5 h1.1 ((k, p, v, (l ++ l2).length + 1) :: (l ++ l2)) := by
  obtain ⟨ow, ⟨o1, o2, o3⟩, o4⟩ := o
  obtain ⟨g1, g2, g3, g4, g5⟩ := g
  have g2 : h1.1 + 1 ≤ h5.1 := g2
  have hFD : rp_D σ3 σ4 := ⟨fun a b => Or.inr (by rw [F.1]), fun k => Or.inr (by rw [F.2.1]), fun k => by rcases F.2.2 k with z | z; (left; omega); exact Or.inr z⟩
  have f34 : σ4.1 10 6 = 0 → σ3.1 10 6 = 0 := fun z => by rw [F.1] at z; exact z
  have bk : σ5.1 10 6 = 0 → σ1.1 10 6 = 0 := fun z => m.2.1 (kk.2 (f34 (g3 z)))
  have fa : rp_f (rp_ad (rp_nw h1) h1.1 e) h1.1 := rp_fa (Nat.lt_succ_self _) (by omega) (rp_fn hK)
  refine ⟨⟨rp_Dt ow.1 (rp_Dt m.1 (rp_Dt (rp_Df kk.1) (rp_Dt hFD g1))), by have := ow.2.1; omega, fun z => ow.2.2.1 (bk z), fun x hx hf => g4 x (by have := ow.2.1; show x < h1.1 + 1; omega) (rp_fa (Nat.lt_succ_self _) (by omega) (rp_fw (ow.2.2.2 x hx hf)))⟩, ⟨by omega, by omega, g4 h1.1 (Nat.lt_succ_self _) fa⟩, fun w => ?_⟩
  obtain ⟨p1, L, p2, ⟨b1, b2, b3, b4, b5, b6⟩, p3⟩ := o4 (bk w)
  obtain ⟨q1, L2, q2, ⟨c1, c2, c3, c4, c5, c6, c7⟩⟩ := g5 w
  have q1 : h5.1 = h1.1 + 1 + l2.length := q1
  obtain ⟨y1, y2⟩ := hy w
  have hh : ∀ a, a < h1.1 → ∀ q, rp_h t M n σ1 a q → rp_h t M n σ5 a q := fun a ha q hq => c4 a (Nat.lt_succ_of_lt ha) q (xe_hF F (rp_Kh kk (rp_Mh m (by omega) hq)))
  have ek : ∀ a, a < h1.1 → h5.2 a = h1.2 a := fun a ha => by
    rw [c2 a (Nat.lt_succ_of_lt ha) (by omega)]
    show hp_k (hp_k h1.2 h1.1 []) h1.1 _ a = _
    rw [hp_kn (by omega), hp_kn (by omega)]
  have ea : h5.2 h1.1 = hp_t (L ++ L2) := by
    rw [c3]
    show hp_k (hp_k h1.2 h1.1 []) h1.1 (hp_k h1.2 h1.1 [] h1.1 ++ [e]) h1.1 ++ _ = _
    rw [hp_ke, hp_ke, hp_ta b6, p3]
    rfl
  have hlen : (L ++ L2).length = (l ++ l2).length := by rw [← p2, ← q2, List.length_append, List.length_append, List.length_map, List.length_map]
  have hs : hp_sz (((k, p, v, (l ++ l2).length + 1), h1.1) : hp_N) = (L ++ L2).length + 1 := by rw [hlen]; rfl
  refine ⟨?_, ((k, p, v, (l ++ l2).length + 1), h1.1) :: (L ++ L2), ?_, ⟨by have := ow.2.1; omega, fun a ha => ?_, fun a ha q hq => hh a (by have := ow.2.1; omega) q (b3 a ha q hq), ⟨⟨by show h1.1 < h5.1; omega, ?_, ?_⟩, (hp_Ra b6).mpr ⟨hp_Rm (by omega) (fun x hx hxn => ⟨ek x.2 hxn, fun q hq => hh x.2 hxn q hq⟩) b4, c5⟩⟩, fun x hx => ?_, hp_cn (hp_ca b6 c7) hs⟩, hp_tn hs⟩
  · rw [List.length_cons, List.length_append]; omega
  · rw [List.map_cons, List.map_append, p2, q2]
  · rw [ek a (by have := ow.2.1; omega)]; exact b2 a ha
  · exact c4 h1.1 (Nat.lt_succ_self _) _ (xe_hF F (rp_Kh kk ⟨m.2.2.1.1, m.2.2.1.2.1.trans y1, by rw [m.2.2.1.2.2]; exact y2⟩))
  · rw [hs, Nat.add_sub_cancel, List.take_length]; exact ea
  · rcases List.mem_cons.mp hx with q | q
    · rw [q]; show h0.1 ≤ h1.1; omega
    · rcases List.mem_append.mp q with q | q
      · exact b5 x q
      · have := c6 x q
        have : (rp_ad (rp_nw h1) h1.1 e).1 = h1.1 + 1 := rfl
        omega
theorem rp_Ok {t : Nat → Nat} {M n : Nat} {σ σ1 σ2 : pm_S} {h h1 : rp_H} {e : Nat} {l : List pg_N} (o : rp_O t M n σ h σ1 h1 e l) (k : rp_K σ1 σ2) : rp_O t M n σ h σ2 h1 e l := by
  obtain ⟨a, b, c⟩ := o
  refine ⟨rp_Wk a k, b, fun z => ?_⟩
  obtain ⟨c1, L, c2, ⟨f1, f2, f3, f4, f5, f6⟩, c3⟩ := c (k.2 z)
  exact ⟨c1, L, c2, ⟨f1, f2, fun a ha q hq => rp_Kh k (f3 a ha q hq), hp_Rm (Nat.le_refl _) (fun y _ _ => ⟨rfl, fun q hq => rp_Kh k hq⟩) f4, f5, f6⟩, c3⟩
theorem rp_kO {t : Nat → Nat} {M n : Nat} {σ σ1 σ2 : pm_S} {h h2 : rp_H} {e : Nat} {l : List pg_N} (k : rp_K σ σ1) (o : rp_O t M n σ1 h σ2 h2 e l) : rp_O t M n σ h σ2 h2 e l := by
  obtain ⟨a, b, c⟩ := o
  refine ⟨rp_Wt (rp_Wk rp_Wr k) a, b, fun z => ?_⟩
  obtain ⟨c1, L, c2, ⟨f1, f2, f3, f4, f5, f6⟩, c3⟩ := c z
  exact ⟨c1, L, c2, ⟨f1, f2, fun a ha q hq => f3 a ha q (rp_Kh k hq), f4, f5, f6⟩, c3⟩
theorem rp_Oe {t : Nat → Nat} {M n : Nat} {σ σ1 : pm_S} {h h1 : rp_H} {e : Nat} {l l' : List pg_N} (o : rp_O t M n σ h σ1 h1 e l) (q : l = l') : rp_O t M n σ h σ1 h1 e l' := q ▸ o
/-- dead: growth of any list -/
theorem rp_Ed {t : Nat → Nat} {M n : Nat} {σ σ' : pm_S} {h h' : rp_H} {to : Nat} {l : List pg_N} (w : rp_W σ h σ' h') (hd : ¬ σ'.1 10 6 = 0) : rp_E t M n σ h σ' h' to l := ⟨w.1, w.2.1, w.2.2.1, w.2.2.2, fun z => absurd z hd⟩
theorem pg_xd {T : pg_T} {k : Nat} {c : pg_C} : pg_exp T k (pg_dec c) = pg_dec (pg_exp T k c) := by
  unfold pg_exp
  by_cases q : pg_k T c = k
  · rw [if_pos q, if_pos (show pg_k T (pg_dec c) = k from q)]; rfl
  · rw [if_neg q, if_neg (show ¬ pg_k T (pg_dec c) = k from q)]; rfl
theorem pg_xs {T : pg_T} {k : Nat} {c : pg_C} (hl : pg_live T c) (q : pg_is T k c = true) : pg_exp T k c = pg_stp c := by
  rw [pg_stpl (T := T) hl.1]
  exact if_pos (pg_isk q)
theorem pg_nx {T : pg_T} {k : Nat} {c : pg_C} (hl : pg_live T c) (hk : k ≠ 45) : pg_next T k c = pg_is T k (pg_stp c) := by
  rw [pg_stpl (T := T) hl.1]
  unfold pg_next pg_is pg_k
  rw [if_pos (show (c.1 + 1, c.2.1, c.2.2).2.1 = 0 from hl.1)]
theorem d243_0 : decode prog_14_method_58_code 0 = .ok (.aload_n 0, 1) := by decide +kernel
theorem d243_1 : decode prog_14_method_58_code 1 = .ok (.bipush 12, 2) := by decide +kernel
theorem d243_3 : decode prog_14_method_58_code 3 = .ok (.aload_n 0, 1) := by decide +kernel
theorem d243_4 : decode prog_14_method_58_code 4 = .ok (.getfield 151, 3) := by decide +kernel
theorem d243_7 : decode prog_14_method_58_code 7 = .ok (.iconst 0, 1) := by decide +kernel
theorem d243_8 : decode prog_14_method_58_code 8 = .ok (.invokevirtual 324, 3) := by decide +kernel
theorem d243_11 : decode prog_14_method_58_code 11 = .ok (.istore_n 3, 1) := by decide +kernel
theorem d243_12 : decode prog_14_method_58_code 12 = .ok (.aload_n 0, 1) := by decide +kernel
theorem d243_13 : decode prog_14_method_58_code 13 = .ok (.sipush 400, 3) := by decide +kernel
theorem d243_16 : decode prog_14_method_58_code 16 = .ok (.invokevirtual 340, 3) := by decide +kernel
theorem d243_19 : decode prog_14_method_58_code 19 = .ok (.aload_n 0, 1) := by decide +kernel
theorem d243_20 : decode prog_14_method_58_code 20 = .ok (.iload_n 3, 1) := by decide +kernel
theorem d243_21 : decode prog_14_method_58_code 21 = .ok (.iload_n 2, 1) := by decide +kernel
theorem d243_22 : decode prog_14_method_58_code 22 = .ok (.invokevirtual 328, 3) := by decide +kernel
theorem d243_25 : decode prog_14_method_58_code 25 = .ok (.aload_n 0, 1) := by decide +kernel
theorem d243_26 : decode prog_14_method_58_code 26 = .ok (.iload_n 3, 1) := by decide +kernel
theorem d243_27 : decode prog_14_method_58_code 27 = .ok (.invokevirtual 428, 3) := by decide +kernel
theorem d243_30 : decode prog_14_method_58_code 30 = .ok (.aload_n 0, 1) := by decide +kernel
theorem d243_31 : decode prog_14_method_58_code 31 = .ok (.sipush 259, 3) := by decide +kernel
theorem d243_34 : decode prog_14_method_58_code 34 = .ok (.invokevirtual 340, 3) := by decide +kernel
theorem d243_37 : decode prog_14_method_58_code 37 = .ok (.aload_n 0, 1) := by decide +kernel
theorem d243_38 : decode prog_14_method_58_code 38 = .ok (.iload_n 1, 1) := by decide +kernel
theorem d243_39 : decode prog_14_method_58_code 39 = .ok (.iload_n 3, 1) := by decide +kernel
theorem d243_40 : decode prog_14_method_58_code 40 = .ok (.invokevirtual 328, 3) := by decide +kernel
theorem d243_43 : decode prog_14_method_58_code 43 = .ok (.return_, 1) := by decide +kernel
theorem m243 : pm_m 243 = some (⟨"TypeRulesModel", "assignment", "(II)V"⟩, prog_14_method_58_code, 4, none, 10, 2, 11) := rfl
theorem d256_0 : decode prog_14_method_59_code 0 = .ok (.aload_n 0, 1) := by decide +kernel
theorem d256_1 : decode prog_14_method_59_code 1 = .ok (.iload_n 1, 1) := by decide +kernel
theorem d256_2 : decode prog_14_method_59_code 2 = .ok (.bipush 13, 2) := by decide +kernel
theorem d256_4 : decode prog_14_method_59_code 4 = .ok (.iload_n 2, 1) := by decide +kernel
theorem d256_5 : decode prog_14_method_59_code 5 = .ok (.iload_n 3, 1) := by decide +kernel
theorem d256_6 : decode prog_14_method_59_code 6 = .ok (.invokevirtual 349, 3) := by decide +kernel
theorem d256_9 : decode prog_14_method_59_code 9 = .ok (.istore 4, 2) := by decide +kernel
theorem d256_11 : decode prog_14_method_59_code 11 = .ok (.aload_n 0, 1) := by decide +kernel
theorem d256_12 : decode prog_14_method_59_code 12 = .ok (.invokevirtual 400, 3) := by decide +kernel
theorem d256_15 : decode prog_14_method_59_code 15 = .ok (.aload_n 0, 1) := by decide +kernel
theorem d256_16 : decode prog_14_method_59_code 16 = .ok (.getfield 135, 3) := by decide +kernel
theorem d256_19 : decode prog_14_method_59_code 19 = .ok (.ifCond .ne 16, 3) := by decide +kernel
theorem d256_22 : decode prog_14_method_59_code 22 = .ok (.aload_n 0, 1) := by decide +kernel
theorem d256_23 : decode prog_14_method_59_code 23 = .ok (.bipush 41, 2) := by decide +kernel
theorem d256_25 : decode prog_14_method_59_code 25 = .ok (.invokevirtual 346, 3) := by decide +kernel
theorem d256_28 : decode prog_14_method_59_code 28 = .ok (.ifCond .ne 7, 3) := by decide +kernel
theorem d256_31 : decode prog_14_method_59_code 31 = .ok (.iconst 1, 1) := by decide +kernel
theorem d256_32 : decode prog_14_method_59_code 32 = .ok (.goto 4, 3) := by decide +kernel
theorem d256_35 : decode prog_14_method_59_code 35 = .ok (.iconst 0, 1) := by decide +kernel
theorem d256_36 : decode prog_14_method_59_code 36 = .ok (.istore 5, 2) := by decide +kernel
theorem d256_38 : decode prog_14_method_59_code 38 = .ok (.iload 5, 2) := by decide +kernel
theorem d256_40 : decode prog_14_method_59_code 40 = .ok (.ifCond .eq 68, 3) := by decide +kernel
theorem d256_43 : decode prog_14_method_59_code 43 = .ok (.aload_n 0, 1) := by decide +kernel
theorem d256_44 : decode prog_14_method_59_code 44 = .ok (.getfield 135, 3) := by decide +kernel
theorem d256_47 : decode prog_14_method_59_code 47 = .ok (.ifCond .ne 61, 3) := by decide +kernel
theorem d256_50 : decode prog_14_method_59_code 50 = .ok (.aload_n 0, 1) := by decide +kernel
theorem d256_51 : decode prog_14_method_59_code 51 = .ok (.getfield 151, 3) := by decide +kernel
theorem d256_54 : decode prog_14_method_59_code 54 = .ok (.istore 6, 2) := by decide +kernel
theorem d256_56 : decode prog_14_method_59_code 56 = .ok (.aload_n 0, 1) := by decide +kernel
theorem d256_57 : decode prog_14_method_59_code 57 = .ok (.invokevirtual 356, 3) := by decide +kernel
theorem d256_60 : decode prog_14_method_59_code 60 = .ok (.istore 7, 2) := by decide +kernel
theorem d256_62 : decode prog_14_method_59_code 62 = .ok (.aload_n 0, 1) := by decide +kernel
theorem d256_63 : decode prog_14_method_59_code 63 = .ok (.iload 4, 2) := by decide +kernel
theorem d256_65 : decode prog_14_method_59_code 65 = .ok (.bipush 14, 2) := by decide +kernel
theorem d256_67 : decode prog_14_method_59_code 67 = .ok (.iload 6, 2) := by decide +kernel
theorem d256_69 : decode prog_14_method_59_code 69 = .ok (.iload 7, 2) := by decide +kernel
theorem d256_71 : decode prog_14_method_59_code 71 = .ok (.invokevirtual 349, 3) := by decide +kernel
theorem d256_74 : decode prog_14_method_59_code 74 = .ok (.istore 8, 2) := by decide +kernel
theorem d256_76 : decode prog_14_method_59_code 76 = .ok (.aload_n 0, 1) := by decide +kernel
theorem d256_77 : decode prog_14_method_59_code 77 = .ok (.sipush 400, 3) := by decide +kernel
theorem d256_80 : decode prog_14_method_59_code 80 = .ok (.invokevirtual 340, 3) := by decide +kernel
theorem d256_83 : decode prog_14_method_59_code 83 = .ok (.aload_n 0, 1) := by decide +kernel
theorem d256_84 : decode prog_14_method_59_code 84 = .ok (.getfield 135, 3) := by decide +kernel
theorem d256_87 : decode prog_14_method_59_code 87 = .ok (.ifCond .ne 9, 3) := by decide +kernel
theorem d256_90 : decode prog_14_method_59_code 90 = .ok (.aload_n 0, 1) := by decide +kernel
theorem d256_91 : decode prog_14_method_59_code 91 = .ok (.iload 8, 2) := by decide +kernel
theorem d256_93 : decode prog_14_method_59_code 93 = .ok (.invokevirtual 428, 3) := by decide +kernel
theorem d256_96 : decode prog_14_method_59_code 96 = .ok (.aload_n 0, 1) := by decide +kernel
theorem d256_97 : decode prog_14_method_59_code 97 = .ok (.sipush 244, 3) := by decide +kernel
theorem d256_100 : decode prog_14_method_59_code 100 = .ok (.invokevirtual 353, 3) := by decide +kernel
theorem d256_103 : decode prog_14_method_59_code 103 = .ok (.istore 5, 2) := by decide +kernel
theorem d256_105 : decode prog_14_method_59_code 105 = .ok (.goto (-67), 3) := by decide +kernel
theorem d256_108 : decode prog_14_method_59_code 108 = .ok (.aload_n 0, 1) := by decide +kernel
theorem d256_109 : decode prog_14_method_59_code 109 = .ok (.sipush 241, 3) := by decide +kernel
theorem d256_112 : decode prog_14_method_59_code 112 = .ok (.invokevirtual 340, 3) := by decide +kernel
theorem d256_115 : decode prog_14_method_59_code 115 = .ok (.aload_n 0, 1) := by decide +kernel
theorem d256_116 : decode prog_14_method_59_code 116 = .ok (.dup, 1) := by decide +kernel
theorem d256_117 : decode prog_14_method_59_code 117 = .ok (.getfield 343, 3) := by decide +kernel
theorem d256_120 : decode prog_14_method_59_code 120 = .ok (.iconst 1, 1) := by decide +kernel
theorem d256_121 : decode prog_14_method_59_code 121 = .ok (.isub, 1) := by decide +kernel
theorem d256_122 : decode prog_14_method_59_code 122 = .ok (.putfield 343, 3) := by decide +kernel
theorem d256_125 : decode prog_14_method_59_code 125 = .ok (.aload_n 0, 1) := by decide +kernel
theorem d256_126 : decode prog_14_method_59_code 126 = .ok (.sipush 259, 3) := by decide +kernel
theorem d256_129 : decode prog_14_method_59_code 129 = .ok (.invokevirtual 340, 3) := by decide +kernel
theorem d256_132 : decode prog_14_method_59_code 132 = .ok (.return_, 1) := by decide +kernel
theorem m256 : pm_m 256 = some (⟨"TypeRulesModel", "invocation", "(III)V"⟩, prog_14_method_59_code, 9, none, 10, 3, 11) := rfl
theorem d242_0 : decode prog_14_method_60_code 0 = .ok (.aload_n 0, 1) := by decide +kernel
theorem d242_1 : decode prog_14_method_60_code 1 = .ok (.getfield 151, 3) := by decide +kernel
theorem d242_4 : decode prog_14_method_60_code 4 = .ok (.istore_n 2, 1) := by decide +kernel
theorem d242_5 : decode prog_14_method_60_code 5 = .ok (.aload_n 0, 1) := by decide +kernel
theorem d242_6 : decode prog_14_method_60_code 6 = .ok (.getfield 154, 3) := by decide +kernel
theorem d242_9 : decode prog_14_method_60_code 9 = .ok (.istore_n 3, 1) := by decide +kernel
theorem d242_10 : decode prog_14_method_60_code 10 = .ok (.aload_n 0, 1) := by decide +kernel
theorem d242_11 : decode prog_14_method_60_code 11 = .ok (.invokevirtual 334, 3) := by decide +kernel
theorem d242_14 : decode prog_14_method_60_code 14 = .ok (.aload_n 0, 1) := by decide +kernel
theorem d242_15 : decode prog_14_method_60_code 15 = .ok (.sipush 400, 3) := by decide +kernel
theorem d242_18 : decode prog_14_method_60_code 18 = .ok (.invokevirtual 331, 3) := by decide +kernel
theorem d242_21 : decode prog_14_method_60_code 21 = .ok (.ifCond .eq 19, 3) := by decide +kernel
theorem d242_24 : decode prog_14_method_60_code 24 = .ok (.aload_n 0, 1) := by decide +kernel
theorem d242_25 : decode prog_14_method_60_code 25 = .ok (.iload_n 1, 1) := by decide +kernel
theorem d242_26 : decode prog_14_method_60_code 26 = .ok (.aload_n 0, 1) := by decide +kernel
theorem d242_27 : decode prog_14_method_60_code 27 = .ok (.bipush 6, 2) := by decide +kernel
theorem d242_29 : decode prog_14_method_60_code 29 = .ok (.iload_n 2, 1) := by decide +kernel
theorem d242_30 : decode prog_14_method_60_code 30 = .ok (.iload_n 3, 1) := by decide +kernel
theorem d242_31 : decode prog_14_method_60_code 31 = .ok (.invokevirtual 324, 3) := by decide +kernel
theorem d242_34 : decode prog_14_method_60_code 34 = .ok (.invokevirtual 431, 3) := by decide +kernel
theorem d242_37 : decode prog_14_method_60_code 37 = .ok (.goto 96, 3) := by decide +kernel
theorem d242_40 : decode prog_14_method_60_code 40 = .ok (.aload_n 0, 1) := by decide +kernel
theorem d242_41 : decode prog_14_method_60_code 41 = .ok (.bipush 91, 2) := by decide +kernel
theorem d242_43 : decode prog_14_method_60_code 43 = .ok (.invokevirtual 346, 3) := by decide +kernel
theorem d242_46 : decode prog_14_method_60_code 46 = .ok (.ifCond .eq 64, 3) := by decide +kernel
theorem d242_49 : decode prog_14_method_60_code 49 = .ok (.aload_n 0, 1) := by decide +kernel
theorem d242_50 : decode prog_14_method_60_code 50 = .ok (.bipush 32, 2) := by decide +kernel
theorem d242_52 : decode prog_14_method_60_code 52 = .ok (.iload_n 2, 1) := by decide +kernel
theorem d242_53 : decode prog_14_method_60_code 53 = .ok (.iload_n 3, 1) := by decide +kernel
theorem d242_54 : decode prog_14_method_60_code 54 = .ok (.invokevirtual 324, 3) := by decide +kernel
theorem d242_57 : decode prog_14_method_60_code 57 = .ok (.istore 4, 2) := by decide +kernel
theorem d242_59 : decode prog_14_method_60_code 59 = .ok (.aload_n 0, 1) := by decide +kernel
theorem d242_60 : decode prog_14_method_60_code 60 = .ok (.invokevirtual 400, 3) := by decide +kernel
theorem d242_63 : decode prog_14_method_60_code 63 = .ok (.aload_n 0, 1) := by decide +kernel
theorem d242_64 : decode prog_14_method_60_code 64 = .ok (.getfield 135, 3) := by decide +kernel
theorem d242_67 : decode prog_14_method_60_code 67 = .ok (.ifCond .ne 9, 3) := by decide +kernel
theorem d242_70 : decode prog_14_method_60_code 70 = .ok (.aload_n 0, 1) := by decide +kernel
theorem d242_71 : decode prog_14_method_60_code 71 = .ok (.iload 4, 2) := by decide +kernel
theorem d242_73 : decode prog_14_method_60_code 73 = .ok (.invokevirtual 428, 3) := by decide +kernel
theorem d242_76 : decode prog_14_method_60_code 76 = .ok (.aload_n 0, 1) := by decide +kernel
theorem d242_77 : decode prog_14_method_60_code 77 = .ok (.sipush 293, 3) := by decide +kernel
theorem d242_80 : decode prog_14_method_60_code 80 = .ok (.invokevirtual 340, 3) := by decide +kernel
theorem d242_83 : decode prog_14_method_60_code 83 = .ok (.aload_n 0, 1) := by decide +kernel
theorem d242_84 : decode prog_14_method_60_code 84 = .ok (.dup, 1) := by decide +kernel
theorem d242_85 : decode prog_14_method_60_code 85 = .ok (.getfield 343, 3) := by decide +kernel
theorem d242_88 : decode prog_14_method_60_code 88 = .ok (.iconst 1, 1) := by decide +kernel
theorem d242_89 : decode prog_14_method_60_code 89 = .ok (.isub, 1) := by decide +kernel
theorem d242_90 : decode prog_14_method_60_code 90 = .ok (.putfield 343, 3) := by decide +kernel
theorem d242_93 : decode prog_14_method_60_code 93 = .ok (.aload_n 0, 1) := by decide +kernel
theorem d242_94 : decode prog_14_method_60_code 94 = .ok (.getfield 135, 3) := by decide +kernel
theorem d242_97 : decode prog_14_method_60_code 97 = .ok (.ifCond .ne 10, 3) := by decide +kernel
theorem d242_100 : decode prog_14_method_60_code 100 = .ok (.aload_n 0, 1) := by decide +kernel
theorem d242_101 : decode prog_14_method_60_code 101 = .ok (.iload_n 1, 1) := by decide +kernel
theorem d242_102 : decode prog_14_method_60_code 102 = .ok (.iload 4, 2) := by decide +kernel
theorem d242_104 : decode prog_14_method_60_code 104 = .ok (.invokevirtual 431, 3) := by decide +kernel
theorem d242_107 : decode prog_14_method_60_code 107 = .ok (.goto 26, 3) := by decide +kernel
theorem d242_110 : decode prog_14_method_60_code 110 = .ok (.aload_n 0, 1) := by decide +kernel
theorem d242_111 : decode prog_14_method_60_code 111 = .ok (.bipush 40, 2) := by decide +kernel
theorem d242_113 : decode prog_14_method_60_code 113 = .ok (.invokevirtual 346, 3) := by decide +kernel
theorem d242_116 : decode prog_14_method_60_code 116 = .ok (.ifCond .eq 13, 3) := by decide +kernel
theorem d242_119 : decode prog_14_method_60_code 119 = .ok (.aload_n 0, 1) := by decide +kernel
theorem d242_120 : decode prog_14_method_60_code 120 = .ok (.iload_n 1, 1) := by decide +kernel
theorem d242_121 : decode prog_14_method_60_code 121 = .ok (.iload_n 2, 1) := by decide +kernel
theorem d242_122 : decode prog_14_method_60_code 122 = .ok (.iload_n 3, 1) := by decide +kernel
theorem d242_123 : decode prog_14_method_60_code 123 = .ok (.invokevirtual 434, 3) := by decide +kernel
theorem d242_126 : decode prog_14_method_60_code 126 = .ok (.goto 7, 3) := by decide +kernel
theorem d242_129 : decode prog_14_method_60_code 129 = .ok (.aload_n 0, 1) := by decide +kernel
theorem d242_130 : decode prog_14_method_60_code 130 = .ok (.invokevirtual 337, 3) := by decide +kernel
theorem d242_133 : decode prog_14_method_60_code 133 = .ok (.return_, 1) := by decide +kernel
theorem m242 : pm_m 242 = some (⟨"TypeRulesModel", "byName", "(I)V"⟩, prog_14_method_60_code, 5, none, 10, 1, 11) := rfl
theorem rp243 {d : Nat} {Q : Option Value → pm_S → Prop} {t : Nat → Nat} {M n : Nat} {σ : pm_S} {h : rp_H} {c : pg_C} {s : Nat} {σ0 : pm_S} {h0 : rp_H} {e body : Nat} {l : List pg_N} (hN : rp_n t M n) (hs : s ≤ 2800) (hb : body < h0.1) (hS : rp_S t M n σ c h s) (o : rp_O t M n σ0 h0 σ h e l) (hQ : ∀ σ' h', rp_S t M n σ' (pg_exp (pt_T t M n) 57 (pg_E (pt_T t M n) (pg_exp (pt_T t M n) 47 c)).1) h' (s + 4) → rp_E t M n σ0 h0 σ' h' body ((12, pg_pl (pt_T t M n) c, 0, (l ++ (pg_E (pt_T t M n) (pg_exp (pt_T t M n) 47 c)).2).length + 1) :: (l ++ (pg_E (pt_T t M n) (pg_exp (pt_T t M n) 47 c)).2)) → Q none σ') : pm_call pm_Y0 (d + 14) 243 [.ref 10, .int (nI body), .int (nI e)] σ Q := by
  refine wq_m m243 (Nat.le_of_ble_eq_true rfl) (by decide) rfl ?_
  refine wq_l 1 d243_0 rfl rfl rfl rfl ?_
  refine wq_k 3 12 d243_1 (by decide) rfl ?_
  refine wq_l 4 d243_3 rfl rfl rfl rfl ?_
  refine wq_gi (ci := 10) (j := 4) 7 d243_4 rfl rfl rfl rfl ?_
  refine wq_k 8 0 d243_7 (by decide) rfl ?_
  refine wq_v 11 [_, _, _] d243_8 rfl rfl m202 rfl rfl (Nat.le_of_ble_eq_true rfl) rfl (rp_mk hN (by omega) hS (fun σ2 h2 m2 => ?_))
  refine wq_s 12 d243_11 rfl rfl (Nat.le_of_ble_eq_true rfl) rfl rfl ?_
  refine wq_l 13 d243_12 rfl rfl rfl rfl ?_
  refine wq_k 16 400 d243_13 (by decide) rfl ?_
  refine wq_v 19 [_] d243_16 rfl rfl m229 rfl rfl (Nat.le_of_ble_eq_true rfl) rfl (rp_want (k := 47) hN (by decide) (by decide) h2 (fun σ3 h3 k3 => ?_))
  refine wq_l 20 d243_19 rfl rfl rfl rfl ?_
  refine wq_l 21 d243_20 rfl rfl rfl rfl ?_
  refine wq_l 22 d243_21 rfl rfl rfl rfl ?_
  refine wq_v 25 [_, _] d243_22 rfl rfl m227 rfl rfl (Nat.le_of_ble_eq_true rfl) rfl (rp_add h3 rp_lw (Nat.lt_succ_of_lt o.2.1.2.1) (rp_fw o.2.1.2.2) (fun σ4 h4 F4 => ?_))
  refine wq_l 26 d243_25 rfl rfl rfl rfl ?_
  refine wq_l 27 d243_26 rfl rfl rfl rfl ?_
  refine wq_v 30 [_] d243_27 rfl rfl m244 rfl rfl (Nat.le_of_ble_eq_true rfl) rfl (rp244 (s := s + 1) (to := h.1) hN (by omega) (show h.1 < (rp_ad (rp_nw h) h.1 e).1 from Nat.lt_succ_self _) h4 (fun σ5 h5 h6 g6 => ?_))
  refine wq_l 31 d243_30 rfl rfl rfl rfl ?_
  refine wq_k 34 259 d243_31 (by decide) rfl ?_
  refine wq_v 37 [_] d243_34 rfl rfl m229 rfl rfl (Nat.le_of_ble_eq_true rfl) rfl (rp_want (k := 57) hN (by decide) (by decide) h6 (fun σ7 h7 k7 => ?_))
  have ox := rp_Ok (rp_Ox (k := 12) (p := pg_pl (pt_T t M n) c) (v := 0) hS.2.1 o m2 k3 F4 g6 (fun z => ⟨rp_pl hS (m2.2.1 (k3.2 (by have := g6.2.2.1 z; rw [F4.1] at this; exact this))), rp_V0 (by decide)⟩)) k7
  refine wq_l 38 d243_37 rfl rfl rfl rfl ?_
  refine wq_l 39 d243_38 rfl rfl rfl rfl ?_
  refine wq_l 40 d243_39 rfl rfl rfl rfl ?_
  refine wq_v 43 [_, _] d243_40 rfl rfl m227 rfl rfl (Nat.le_of_ble_eq_true rfl) rfl (rp_add h7 (Nat.lt_of_lt_of_le hb ox.1.2.1) ox.2.1.2.1 ox.2.1.2.2 (fun σ8 h8 F8 => ?_))
  refine wq_rv d243_43 ?_
  exact hQ _ _ (rp_Se h8 rfl (by omega)) (rp_Oa hb ox F8)
theorem rps256 {d : Nat} {Q : Option Value → pm_S → Prop} {t : Nat → Nat} {M n : Nat} {σ : pm_S} {h : rp_H} {c : pg_C} {s : Nat} {a1 a2 a3 a5 a6 a7 a8 : Value} {nd : Nat} (hN : rp_n t M n) (hS : rp_S t M n σ c h s) (hc : pg_live (pt_T t M n) c → 1 ≤ c.2.2) (hQ : ∀ σ', rp_S t M n σ' (pg_exp (pt_T t M n) 57 (pg_exp (pt_T t M n) 53 (pg_dec c))) h s → rp_K σ σ' → Q none σ') : pm_WP pm_Y0 (pm_call pm_Y0 (d + 14)) 10 prog_14_method_59_code none Q 108 [.ref 10, a1, a2, a3, .int (nI nd), a5, a6, a7, a8] [] σ := by
  refine wq_l 109 d256_108 rfl rfl rfl rfl ?_
  refine wq_k 112 241 d256_109 (by decide) rfl ?_
  refine wq_v 115 [_] d256_112 rfl rfl m229 rfl rfl (Nat.le_of_ble_eq_true rfl) rfl (rp_want (k := 53) hN (by decide) (by decide) hS (fun σ1 h1 k1 => ?_))
  refine wq_l 116 d256_115 rfl rfl rfl rfl ?_
  refine wq_a 117 d256_116 rfl rfl ?_
  refine wq_gi (ci := 10) (j := 8) 120 d256_117 rfl rfl rfl rfl ?_
  refine wq_k 121 1 d256_120 (by decide) rfl ?_
  refine wq_a 122 d256_121 rfl rfl ?_
  refine wq_pf (ci := 10) (j := 8) 125 d256_122 rfl rfl rfl ⟨rfl, rfl⟩ rfl ?_
  have h2 := rp_dec h1 (fun z => by rw [pg_oexp]; exact hc (pg_exl (by decide) z).1)
  rw [← pg_xd] at h2
  refine wq_l 126 d256_125 rfl rfl rfl rfl ?_
  refine wq_k 129 259 d256_126 (by decide) rfl ?_
  refine wq_v 132 [_] d256_129 rfl rfl m229 rfl rfl (Nat.le_of_ble_eq_true rfl) rfl (rp_want (k := 57) hN (by decide) (by decide) h2 (fun σ3 h3 k3 => ?_))
  refine wq_rv d256_132 ?_
  exact hQ _ h3 (rp_Kt k1 (rp_Kt rp_pi8 k3))
theorem pg_dpr (T : pg_T) : pg_D T (pg_par T) := pg_dnode (pg_dseq (pg_dtok (pg_fcomp (f := pg_exp T 47) (pg_fexp T (by decide)) (pg_fexp T (by decide)))) (pg_dE T))
theorem xs_n6 (k : Nat) (p : pg_C → Nat) (v : pg_C → Int32) (o : pg_C → pg_C) (E : pg_P) (c : pg_C) : pg_node k p v (pg_seq (pg_tok o) E) c = ((E (o c)).1, (k, p c, v c, (E (o c)).2.length + 1) :: (E (o c)).2) := rfl
theorem pg_par_c (T : pg_T) (c : pg_C) : pg_par T c = ((pg_E T (pg_exp T 47 (pg_exp T 41 c))).1, (14, pg_pl T c, pg_v T c, (pg_E T (pg_exp T 47 (pg_exp T 41 c))).2.length + 1) :: (pg_E T (pg_exp T 47 (pg_exp T 41 c))).2) := by
  unfold pg_par
  exact xs_n6 14 _ _ _ _ c
theorem pg_par_1 (T : pg_T) (c : pg_C) : (pg_par T c).1 = (pg_E T (pg_exp T 47 (pg_exp T 41 c))).1 := by rw [pg_par_c]
theorem pg_par_2 (T : pg_T) (c : pg_C) : (pg_par T c).2 = (14, pg_pl T c, pg_v T c, (pg_E T (pg_exp T 47 (pg_exp T 41 c))).2.length + 1) :: (pg_E T (pg_exp T 47 (pg_exp T 41 c))).2 := by rw [pg_par_c]
theorem pg_par_n (T : pg_T) (c : pg_C) : 1 ≤ (pg_par T c).2.length := by rw [pg_par_2, List.length_cons]; omega
theorem rpl256 {d : Nat} {Q : Option Value → pm_S → Prop} {t : Nat → Nat} {M n : Nat} {s nd : Nat} {a1 a2 a3 : Value} (hN : rp_n t M n) (hs : s ≤ 2800) : ∀ (kk : Nat) (σ : pm_S) (c : pg_C) (h : rp_H) (a6 a7 a8 : Value), rp_T2 t M n σ c h s 8 → nd < h.1 → (σ.1 10 6 = 0 → n ≤ c.1 + kk) → (∀ σ' h' a5 a6 a7 a8, rp_T2 t M n σ' (pg_sep (pt_T t M n) (pg_par (pt_T t M n)) kk c).1 h' s 8 → rp_E t M n σ h σ' h' nd (pg_sep (pt_T t M n) (pg_par (pt_T t M n)) kk c).2 → pm_WP pm_Y0 (pm_call pm_Y0 (d + 14)) 10 prog_14_method_59_code none Q 108 [.ref 10, a1, a2, a3, .int (nI nd), a5, a6, a7, a8] [] σ') → pm_WP pm_Y0 (pm_call pm_Y0 (d + 14)) 10 prog_14_method_59_code none Q 38 [.ref 10, a1, a2, a3, .int (nI nd), .int 1, a6, a7, a8] [] σ := by
  intro kk
  have dead : ∀ kk (σ : pm_S) (c : pg_C) (h : rp_H) (a6 a7 a8 : Value), rp_T2 t M n σ c h s 8 → ¬ σ.1 10 6 = 0 → (∀ σ' h' a5 a6 a7 a8, rp_T2 t M n σ' (pg_sep (pt_T t M n) (pg_par (pt_T t M n)) kk c).1 h' s 8 → rp_E t M n σ h σ' h' nd (pg_sep (pt_T t M n) (pg_par (pt_T t M n)) kk c).2 → pm_WP pm_Y0 (pm_call pm_Y0 (d + 14)) 10 prog_14_method_59_code none Q 108 [.ref 10, a1, a2, a3, .int (nI nd), a5, a6, a7, a8] [] σ') → pm_WP pm_Y0 (pm_call pm_Y0 (d + 14)) 10 prog_14_method_59_code none Q 38 [.ref 10, a1, a2, a3, .int (nI nd), .int 1, a6, a7, a8] [] σ := by
    intro kk σ c h a6 a7 a8 hT z hX
    refine wq_l 40 d256_38 rfl rfl rfl rfl ?_
    refine wq_b 108 43 d256_40 rfl (by decide) rfl (fun c40 => absurd c40 (by decide)) (fun c40 => ?_)
    refine wq_l 44 d256_43 rfl rfl rfl rfl ?_
    refine wq_gi (ci := 10) (j := 6) 47 d256_44 rfl rfl rfl rfl ?_
    refine wq_b 108 50 d256_47 rfl (by decide) rfl (fun c47 => ?_) (fun c47 => absurd (z) c47)
    exact hX σ h _ _ _ _ (xs_dx hT.1 z (pg_dsep (pg_dpr _) kk c (rp_dd hT.1 z))) (rp_Ed rp_Wr z)
  induction kk with
  | zero =>
    intro σ c h a6 a7 a8 hT ht hl hX
    by_cases z : σ.1 10 6 = 0
    · have := hl z
      have := hT.1.1.2.1
      omega
    · exact dead 0 σ c h a6 a7 a8 hT z hX
  | succ kk ih =>
    intro σ c h a6 a7 a8 hT ht hl hX
    by_cases z : σ.1 10 6 = 0
    · have hS := rp_t1 hT z
      have hlv := rp_lv hS z
      have hpl := rp_pl hS z
      rw [pg_sep_c] at hX
      refine wq_l 40 d256_38 rfl rfl rfl rfl ?_
      refine wq_b 108 43 d256_40 rfl (by decide) rfl (fun c40 => absurd c40 (by decide)) (fun c40 => ?_)
      refine wq_l 44 d256_43 rfl rfl rfl rfl ?_
      refine wq_gi (ci := 10) (j := 6) 47 d256_44 rfl rfl rfl rfl ?_
      refine wq_b 108 50 d256_47 rfl (by decide) rfl (fun c47 => absurd c47 (fun y => y z)) (fun c47 => ?_)
      refine wq_l 51 d256_50 rfl rfl rfl rfl ?_
      refine wq_gi (ci := 10) (j := 4) 54 d256_51 rfl rfl rfl rfl ?_
      refine wq_s 56 d256_54 rfl rfl (Nat.le_of_ble_eq_true rfl) rfl rfl ?_
      refine wq_l 57 d256_56 rfl rfl rfl rfl ?_
      refine wq_v 60 [] d256_57 rfl rfl m228 rfl rfl (Nat.le_of_ble_eq_true rfl) rfl (rp_wn hN hS (fun σ1 h1 k1 => ?_))
      refine wq_s 62 d256_60 rfl rfl (Nat.le_of_ble_eq_true rfl) rfl rfl ?_
      refine wq_l 63 d256_62 rfl rfl rfl rfl ?_
      refine wq_l 65 d256_63 rfl rfl rfl rfl ?_
      refine wq_k 67 14 d256_65 (by decide) rfl ?_
      refine wq_l 69 d256_67 rfl rfl rfl rfl ?_
      refine wq_l 71 d256_69 rfl rfl rfl rfl ?_
      refine wq_v 74 [_, _, _, _] d256_71 rfl rfl m226 rfl rfl (Nat.le_of_ble_eq_true rfl) rfl (rp_mkin (to := nd) hN (by omega) ht h1 (fun σ2 h2 m2 => ?_))
      refine wq_s 76 d256_74 rfl rfl (Nat.le_of_ble_eq_true rfl) rfl rfl ?_
      refine wq_l 77 d256_76 rfl rfl rfl rfl ?_
      refine wq_k 80 400 d256_77 (by decide) rfl ?_
      refine wq_v 83 [_] d256_80 rfl rfl m229 rfl rfl (Nat.le_of_ble_eq_true rfl) rfl (rp_want (k := 47) hN (by decide) (by decide) h2 (fun σ3 h3 k3 => ?_))
      refine wq_l 84 d256_83 rfl rfl rfl rfl ?_
      refine wq_gi (ci := 10) (j := 6) 87 d256_84 rfl rfl rfl rfl ?_
      refine wq_b 96 90 d256_87 rfl (by decide) rfl (fun c87 => ?_) (fun c87 => ?_)
      · -- pc 96
        have hd3 : ¬ σ3.1 10 6 = 0 := c87
        have w3 : rp_W σ h σ3 (rp_in h nd) := rp_We (t := t) (M := M) (n := n) (to := nd) (rp_Et ht (rp_Ek (h := h) k1) (rp_Mn (k := 14) (p := 0) (v := 0) (l := []) ht m2 (rp_Ek (h := rp_in h nd) (to := h.1) k3) (fun y => absurd y hd3)))
        have e4 : rp_E t M n σ h σ3 (rp_in h nd) nd (pg_par (pt_T t M n) c).2 := rp_Ed w3 hd3
        have dq : pg_deq (pg_exp (pt_T t M n) 47 (pg_exp (pt_T t M n) 41 c)) (pg_par (pt_T t M n) c).1 := by rw [pg_par_1]; exact pg_dE (pt_T t M n) _ (rp_dd h3 hd3)
        have h4 : rp_S t M n σ3 (pg_par (pt_T t M n) c).1 (rp_in h nd) (s + 8) := rp_Sd h3 (rp_dd h3 hd3) dq (by omega)
        refine wq_l 97 d256_96 rfl rfl rfl rfl ?_
        refine wq_k 100 244 d256_97 (by decide) rfl ?_
        refine wq_v 103 [_] d256_100 rfl rfl m233 rfl rfl (Nat.le_of_ble_eq_true rfl) rfl (rp_take (k := 56) hN (by decide) (by decide) h4 (fun σ5 h5 k5 => ?_))
        refine wq_s 105 d256_103 rfl rfl (Nat.le_of_ble_eq_true rfl) rfl rfl ?_
        refine wq_g 38 d256_105 (by decide) ?_
        have hT4 := rp_t2 (D := 8) (pg_Lpar (pt_T t M n)) hS h4 e4
        cases q : pg_is (pt_T t M n) 56 (pg_par (pt_T t M n) c).1 with
        | true =>
          rw [q, if_pos rfl] at h5
          have l4 := pg_isl q (by decide)
          have q1 := xe_ls l4.1
          have q2 := rp_t3 (pg_Lpar (pt_T t M n)) (c := c) (pg_par_n _ _) l4.1
          simp only [pg_seq_c, pg_ite_c, q, if_true, pg_tok_c, List.nil_append] at hX
          refine ih _ _ _ _ _ _ ⟨h5, fun y => ?_⟩ (Nat.lt_of_lt_of_le ht e4.2.1) (fun y => by have := hl z; omega) (fun σ' h' a5 a6 a7 a8 b1 b2 => hX σ' h' a5 a6 a7 a8 b1 (rp_Et ht e4 (rp_Ee (rp_Et (Nat.lt_of_lt_of_le ht e4.2.1) (rp_Ek k5) b2) (List.nil_append _))))
          have := hT4.2 (k5.2 y)
          show _ ≤ 2 * (pg_stp (pg_par (pt_T t M n) c).1).1 + s
          omega
        | false =>
          rw [q, if_neg (by decide)] at h5
          simp only [pg_seq_c, pg_ite_c, q, if_false, Bool.false_eq_true, pg_nil_c, List.append_nil] at hX
          refine wq_l 40 d256_38 rfl rfl rfl rfl ?_
          refine wq_b 108 43 d256_40 rfl (by decide) rfl (fun _ => ?_) (fun y => absurd (by decide) y)
          exact hX _ _ _ _ _ _ ⟨h5, fun y => hT4.2 (k5.2 y)⟩ (rp_Ee (rp_Et ht e4 (rp_Ek k5)) (List.append_nil _))
      · -- pc 90
        skip
        refine wq_l 91 d256_90 rfl rfl rfl rfl ?_
        refine wq_l 93 d256_91 rfl rfl rfl rfl ?_
        refine wq_v 96 [_] d256_93 rfl rfl m244 rfl rfl (Nat.le_of_ble_eq_true rfl) rfl (rp244 (s := s + 1) (to := h.1) hN (by omega) rp_li h3 (fun σ4 h4' h4 g4 => ?_))
        have e4 : rp_E t M n σ h σ4 h4' nd (pg_par (pt_T t M n) c).2 := by
          have g := rp_Et ht (rp_Ek (h := h) k1) (rp_Mn (k := 14) (p := pg_pl (pt_T t M n) c) (v := pg_v (pt_T t M n) c) ht m2 (rp_Et rp_li (rp_Ek (h := rp_in h nd) k3) g4) (fun y => ⟨rfl, hpl, rp_nm (by decide) hS h1 (m2.2.1 (k3.2 (g4.2.2.1 y)))⟩))
          rw [List.nil_append, List.nil_append] at g
          rw [pg_par_2]
          exact g
        have h4 : rp_S t M n σ4 (pg_par (pt_T t M n) c).1 h4' (s + 8) := by
          rw [pg_par_1]
          exact rp_Se h4 rfl (by omega)
        refine wq_l 97 d256_96 rfl rfl rfl rfl ?_
        refine wq_k 100 244 d256_97 (by decide) rfl ?_
        refine wq_v 103 [_] d256_100 rfl rfl m233 rfl rfl (Nat.le_of_ble_eq_true rfl) rfl (rp_take (k := 56) hN (by decide) (by decide) h4 (fun σ5 h5 k5 => ?_))
        refine wq_s 105 d256_103 rfl rfl (Nat.le_of_ble_eq_true rfl) rfl rfl ?_
        refine wq_g 38 d256_105 (by decide) ?_
        have hT4 := rp_t2 (D := 8) (pg_Lpar (pt_T t M n)) hS h4 e4
        cases q : pg_is (pt_T t M n) 56 (pg_par (pt_T t M n) c).1 with
        | true =>
          rw [q, if_pos rfl] at h5
          have l4 := pg_isl q (by decide)
          have q1 := xe_ls l4.1
          have q2 := rp_t3 (pg_Lpar (pt_T t M n)) (c := c) (pg_par_n _ _) l4.1
          simp only [pg_seq_c, pg_ite_c, q, if_true, pg_tok_c, List.nil_append] at hX
          refine ih _ _ _ _ _ _ ⟨h5, fun y => ?_⟩ (Nat.lt_of_lt_of_le ht e4.2.1) (fun y => by have := hl z; omega) (fun σ' h' a5 a6 a7 a8 b1 b2 => hX σ' h' a5 a6 a7 a8 b1 (rp_Et ht e4 (rp_Ee (rp_Et (Nat.lt_of_lt_of_le ht e4.2.1) (rp_Ek k5) b2) (List.nil_append _))))
          have := hT4.2 (k5.2 y)
          show _ ≤ 2 * (pg_stp (pg_par (pt_T t M n) c).1).1 + s
          omega
        | false =>
          rw [q, if_neg (by decide)] at h5
          simp only [pg_seq_c, pg_ite_c, q, if_false, Bool.false_eq_true, pg_nil_c, List.append_nil] at hX
          refine wq_l 40 d256_38 rfl rfl rfl rfl ?_
          refine wq_b 108 43 d256_40 rfl (by decide) rfl (fun _ => ?_) (fun y => absurd (by decide) y)
          exact hX _ _ _ _ _ _ ⟨h5, fun y => hT4.2 (k5.2 y)⟩ (rp_Ee (rp_Et ht e4 (rp_Ek k5)) (List.append_nil _))
    · exact dead (kk + 1) σ c h a6 a7 a8 hT z hX
