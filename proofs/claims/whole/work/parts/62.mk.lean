/-! ===== the model: undo ===== -/
section MK
variable {h : ab_H} {n : Nat} {Q : ab_Q} {X : ab_X} {Y : Int → Int64}
theorem xm_undo (J : ab_JM X Y h) (I : ab_XI X) (q : ∀ h', ab_eqo 68 91 h h' → ab_JM (ab_n_undo X) Y h' → Q (some (vi (ab_s_undo X))) h' n) : ab_G 191 0 [some (vr 68), none] [] h n (0, 0) Q := by
  have J' := J
  obtain ⟨σ, hmo, hsc, hst, hp, hw⟩ := J'
  obtain ⟨⟨la, p1, q1⟩, ⟨lev, p2, q2⟩, ⟨att, p3, q3⟩, ⟨tp, p4, q4⟩, ⟨ppr, p5, q5⟩, ⟨rwh, p6, q6⟩, ⟨rby, p7, q7⟩, ⟨sz, p8, q8⟩, ⟨cl, p9, q9⟩, ⟨im, p10, q10⟩⟩ := id hp
  obtain ⟨⟨T, w1⟩, ⟨th, w2⟩, ⟨bw, w3⟩, ⟨M, w4, w4'⟩, ⟨pva, w5⟩, ⟨tby, w6⟩, ⟨tfr, w7⟩, ⟨mds, w8⟩, ⟨smm, w9⟩⟩ := id hw
  have hl := ab_lok_cg q1 I.1.1
  have s32 := hsc.2.2.2
  unfold ab_s_undo ab_n_undo at q
  have hI := I.2.2.2.2.2.1
  have hr32 : ab_inR (X 5 3) = True := eq_true (by omega)
  by_cases c : X 5 3 = 0
  · rw [if_pos c] at q
    rw [if_pos c] at q
    have q := q h (fun a ha => rfl) J
    have r0 : ab_inR 0 = True := eq_true (by omega)
    simp only [s191_0, s191_1, s191_4, s191_7, s191_9, true_and, and_true, true_implies, Option.toList_some, Option.toList_none, List.nil_append, List.cons_append, List.map_nil, List.map_cons, List.sum_nil, List.sum_cons, Nat.zero_le, ab_nl_n, ab_nl_i, ab_nl_r, ab_nl_0, ab_cat_i, ab_cat_r, ab_cat_l, Nat.reduceAdd, Nat.reduceLeDiff, Nat.add_zero, Nat.zero_add, reduceIte, List.getElem?_cons_succ, List.getElem?_cons_zero, List.length_cons, List.length_nil, List.set_cons_zero, List.set_cons_succ, true_or, or_true, Classical.not_not, not_true_eq_false, not_false_eq_true, ab_01r, ab_01z, ab_01n, false_implies, ab_tt, Nat.reduceLT, Nat.reduceEqDiff, Int.reduceNeg, Int.reduceLT, Int.reduceLE, Int.add_zero, Int.zero_add, List.append_nil, Int.reduceEq, ab_sum1, ab_ri_0, ab_ri_1, ab_ri_2, ab_ri_3, ab_ri_4, ab_ri_5, ab_ri_6, ab_ri_7, ab_ri_8, ab_ri_12, ab_ri_30, ab_ri_60, ab_ri_100, ab_ri_101, ab_ri_127, ab_ri_m1, ab_ri_m2, ab_ri_m3, ab_ri_m4, ab_ri_m5, ab_ri_m11, ab_ri_m13, ab_ri_m14, ab_ri_10, ab_fd, ab_fs, ab_ai, ab_as, ab_fit, ab_tyf, tyX12, ab_mg_0, ab_mg_1, ab_mg_2, ab_mg_3, ab_mg_4, ab_mg_5, ab_mg_6, ab_mg_7, ab_mg_8, ab_mg_9, ab_mg_10, ab_mg_11, ab_mg_12, ab_mg_13, ab_mg_14, ab_mg_15, ab_mg_16, ab_mg_17, ab_mg_18, ab_mg_19, ab_mg_20, ab_mg_21, ab_mg_22, ab_mg_23, ab_mg_24, ab_mg_25, ab_mg_26, ab_mg_27, ab_mg_28, ab_mg_29, ab_mg_30, ab_mg_31, ab_mg_32, ab_mg_33, ab_ms_8, ab_ms_10, ab_ms_11, ab_ms_17, ab_ms_21, ab_ms_22, ab_ms_24, ab_ms_25, ab_ms_26, ab_ms_29, ab_ms_32, ab_mol_l, Nat.reduceLT, Nat.reduceLeDiff, hmo, s32, c, q]
  · rw [if_neg c] at q
    rw [if_neg c] at q
    have c1 : X 5 3 = 1 := by omega
    obtain ⟨m1, m2, m3, m4⟩ := q10 c1
    have hV := I.2.2.2.2.2.2.2 c1
    have h28 : ab_inR 28 = True := eq_true (by omega)
    have r1 : ab_inR 1 = True := eq_true (by omega)
    simp only [s191_0, s191_1, s191_4, s191_10, s191_11, true_and, and_true, true_implies, Option.toList_some, Option.toList_none, List.nil_append, List.cons_append, List.map_nil, List.map_cons, List.sum_nil, List.sum_cons, Nat.zero_le, ab_nl_n, ab_nl_i, ab_nl_r, ab_nl_0, ab_cat_i, ab_cat_r, ab_cat_l, Nat.reduceAdd, Nat.reduceLeDiff, Nat.add_zero, Nat.zero_add, reduceIte, List.getElem?_cons_succ, List.getElem?_cons_zero, List.length_cons, List.length_nil, List.set_cons_zero, List.set_cons_succ, true_or, or_true, Classical.not_not, not_true_eq_false, not_false_eq_true, ab_01r, ab_01z, ab_01n, false_implies, ab_tt, Nat.reduceLT, Nat.reduceEqDiff, Int.reduceNeg, Int.reduceLT, Int.reduceLE, Int.add_zero, Int.zero_add, List.append_nil, Int.reduceEq, ab_sum1, ab_ri_0, ab_ri_1, ab_ri_2, ab_ri_3, ab_ri_4, ab_ri_5, ab_ri_6, ab_ri_7, ab_ri_8, ab_ri_12, ab_ri_30, ab_ri_60, ab_ri_100, ab_ri_101, ab_ri_127, ab_ri_m1, ab_ri_m2, ab_ri_m3, ab_ri_m4, ab_ri_m5, ab_ri_m11, ab_ri_m13, ab_ri_m14, ab_ri_10, ab_fd, ab_fs, ab_ai, ab_as, ab_fit, ab_tyf, tyX12, ab_mg_0, ab_mg_1, ab_mg_2, ab_mg_3, ab_mg_4, ab_mg_5, ab_mg_6, ab_mg_7, ab_mg_8, ab_mg_9, ab_mg_10, ab_mg_11, ab_mg_12, ab_mg_13, ab_mg_14, ab_mg_15, ab_mg_16, ab_mg_17, ab_mg_18, ab_mg_19, ab_mg_20, ab_mg_21, ab_mg_22, ab_mg_23, ab_mg_24, ab_mg_25, ab_mg_26, ab_mg_27, ab_mg_28, ab_mg_29, ab_mg_30, ab_mg_31, ab_mg_32, ab_mg_33, ab_ms_8, ab_ms_10, ab_ms_11, ab_ms_17, ab_ms_21, ab_ms_22, ab_ms_24, ab_ms_25, ab_ms_26, ab_ms_29, ab_ms_32, ab_mol_l, Nat.reduceLT, Nat.reduceLeDiff, hmo, s32, c1, r1, Int.reduceNe, Ne, Int.one_ne_zero]
    have key1 := ab_dn (P := fun i => ∀ h' L V, (∀ a, a ≠ 69 → a ≠ 74 → h' a = h a) → h' 69 = some (ab_ia 4 L) → h' 74 = some (ab_ia 4 V) → (∀ k, 0 ≤ k → k < i → L k = X 10 k ∧ V k = X 11 k) → ab_G 191 12 [some (vr 68), some (vi i)] [] h' n (0, 0) Q) (a := 0) (e := 4) (by decide) ?_ ?_
    · exact key1 h la lev (fun a _ _ => rfl) p1 p2 (fun k k0 k1 => absurd k0 (by omega))
    · intro h1 L V e1 hL hV' f1
      rw [s191_12]
      simp only [s191_13, s191_14, s191_49, s191_50, true_and, and_true, true_implies, Option.toList_some, Option.toList_none, List.nil_append, List.cons_append, List.map_nil, List.map_cons, List.sum_nil, List.sum_cons, Nat.zero_le, ab_nl_n, ab_nl_i, ab_nl_r, ab_nl_0, ab_cat_i, ab_cat_r, ab_cat_l, Nat.reduceAdd, Nat.reduceLeDiff, Nat.add_zero, Nat.zero_add, reduceIte, List.getElem?_cons_succ, List.getElem?_cons_zero, List.length_cons, List.length_nil, List.set_cons_zero, List.set_cons_succ, true_or, or_true, Classical.not_not, not_true_eq_false, not_false_eq_true, ab_01r, ab_01z, ab_01n, false_implies, ab_tt, Nat.reduceLT, Nat.reduceEqDiff, Int.reduceNeg, Int.reduceLT, Int.reduceLE, Int.add_zero, Int.zero_add, List.append_nil, Int.reduceEq, ab_sum1, ab_ri_0, ab_ri_1, ab_ri_2, ab_ri_3, ab_ri_4, ab_ri_5, ab_ri_6, ab_ri_7, ab_ri_8, ab_ri_12, ab_ri_30, ab_ri_60, ab_ri_100, ab_ri_101, ab_ri_127, ab_ri_m1, ab_ri_m2, ab_ri_m3, ab_ri_m4, ab_ri_m5, ab_ri_m11, ab_ri_m13, ab_ri_m14, ab_ri_10, Int.le_refl]
      have key2 := ab_dn (P := fun i => ∀ h' C, (∀ a, a ≠ 75 → h' a = h1 a) → h' 75 = some (ab_ia 28 C) → (∀ k, 0 ≤ k → k < i → C k = X 12 k) → ab_G 191 51 [some (vr 68), some (vi i)] [] h' n (0, 0) Q) (a := 0) (e := 28) (by decide) ?_ ?_
      · exact key2 h1 att (fun a _ => rfl) ((e1 75 (by decide) (by decide)).trans p3) (fun k k0 k1 => absurd k0 (by omega))
      · intro h2 C e2 hC f2
        rw [s191_51]
        simp only [s191_52, s191_54, s191_78, s191_79, true_and, and_true, true_implies, Option.toList_some, Option.toList_none, List.nil_append, List.cons_append, List.map_nil, List.map_cons, List.sum_nil, List.sum_cons, Nat.zero_le, ab_nl_n, ab_nl_i, ab_nl_r, ab_nl_0, ab_cat_i, ab_cat_r, ab_cat_l, Nat.reduceAdd, Nat.reduceLeDiff, Nat.add_zero, Nat.zero_add, reduceIte, List.getElem?_cons_succ, List.getElem?_cons_zero, List.length_cons, List.length_nil, List.set_cons_zero, List.set_cons_succ, true_or, or_true, Classical.not_not, not_true_eq_false, not_false_eq_true, ab_01r, ab_01z, ab_01n, false_implies, ab_tt, Nat.reduceLT, Nat.reduceEqDiff, Int.reduceNeg, Int.reduceLT, Int.reduceLE, Int.add_zero, Int.zero_add, List.append_nil, Int.reduceEq, ab_sum1, ab_ri_0, ab_ri_1, ab_ri_2, ab_ri_3, ab_ri_4, ab_ri_5, ab_ri_6, ab_ri_7, ab_ri_8, ab_ri_12, ab_ri_30, ab_ri_60, ab_ri_100, ab_ri_101, ab_ri_127, ab_ri_m1, ab_ri_m2, ab_ri_m3, ab_ri_m4, ab_ri_m5, ab_ri_m11, ab_ri_m13, ab_ri_m14, ab_ri_10, h28, Int.le_refl]
        have key3 := ab_dn (P := fun i => ∀ h' C D, (∀ a, a ≠ 78 → a ≠ 79 → h' a = h2 a) → h' 78 = some (ab_ia 8 C) → h' 79 = some (ab_ia 8 D) → (∀ k, 0 ≤ k → k < i → C k = X 13 k ∧ D k = X 14 k) → ab_G 191 80 [some (vr 68), some (vi i)] [] h' n (0, 0) Q) (a := 0) (e := 8) (by decide) ?_ ?_
        · exact key3 h2 rwh rby (fun a _ _ => rfl) ((e2 78 (by decide)).trans ((e1 78 (by decide) (by decide)).trans p6)) ((e2 79 (by decide)).trans ((e1 79 (by decide) (by decide)).trans p7)) (fun k k0 k1 => absurd k0 (by omega))
        · intro h3 W B e3 hW hB f3
          have E : ∀ a, a ≠ 69 → a ≠ 74 → a ≠ 75 → a ≠ 78 → a ≠ 79 → h3 a = h a := fun a a1 a2 a3 a4 a5 => (e3 a a4 a5).trans ((e2 a a3).trans (e1 a a1 a2))
          have O68 := (E 68 (by decide) (by decide) (by decide) (by decide) (by decide)).trans hmo
          have O91 := (E 91 (by decide) (by decide) (by decide) (by decide) (by decide)).trans p10
          have O69 := (e3 69 (by decide) (by decide)).trans ((e2 69 (by decide)).trans hL)
          have O74 := (e3 74 (by decide) (by decide)).trans ((e2 74 (by decide)).trans hV')
          have O75 := (e3 75 (by decide) (by decide)).trans hC
          have x53 : (52 : Int) < ((53 : Nat) : Int) := by omega
          have x53' : (0 : Int) ≤ 52 := by omega
          have z4 : (0 : Int) < ((4 : Nat) : Int) := by omega
          have e0 := (f1 0 (by decide) (by decide)).1
          have O69' : ab_hs h3 68 (ab_mo (ab_su σ 11 (X 15 0))) 69 = some (ab_ia 4 L) := (ab_hs_ne (by decide)).trans O69
          have N : ∀ {k}, k ≠ 68 → ab_hs h3 68 (ab_mo (ab_su σ 11 (X 15 0))) k = h3 k := fun hk => ab_hs_ne hk
          have fr : ∀ a, a ≠ 68 → a ≠ 69 → a ≠ 74 → a ≠ 75 → a ≠ 78 → a ≠ 79 → ab_hs h3 68 (ab_mo (ab_su σ 11 (X 15 0))) a = h a := fun a a0 a1 a2 a3 a4 a5 => (ab_hs_ne a0).trans (E a a1 a2 a3 a4 a5)
          have q := q (ab_hs h3 68 (ab_mo (ab_su σ 11 (X 15 0)))) (fun a ha => fr a (by omega) (by omega) (by omega) (by omega) (by omega) (by omega)) ⟨_, ab_hs_self, ⟨(ab_su_n (by decide)).trans hsc.1, (ab_su_n (by decide)).trans hsc.2.1, ab_su_e, (ab_su_n (by decide)).trans hsc.2.2.2⟩, ab_mst_fr (fun a _ _ => fr a (by omega) (by omega) (by omega) (by omega) (by omega) (by omega)) hst, ⟨⟨L, O69', fun k k0 k4 => (f1 k k0 k4).1⟩, ⟨V, (N (by decide)).trans O74, fun k k0 k4 => (f1 k k0 k4).2⟩, ⟨C, (N (by decide)).trans O75, fun k k0 k4 => f2 k k0 k4⟩, ⟨tp, (fr 76 (by decide) (by decide) (by decide) (by decide) (by decide) (by decide)).trans p4, q4⟩, ⟨ppr, (fr 77 (by decide) (by decide) (by decide) (by decide) (by decide) (by decide)).trans p5, q5⟩, ⟨W, (N (by decide)).trans hW, fun k k0 k4 => (f3 k k0 k4).1⟩, ⟨B, (N (by decide)).trans hB, fun k k0 k4 => (f3 k k0 k4).2⟩, ⟨sz, (fr 80 (by decide) (by decide) (by decide) (by decide) (by decide) (by decide)).trans p8, q8⟩, ⟨cl, (fr 81 (by decide) (by decide) (by decide) (by decide) (by decide) (by decide)).trans p9, q9⟩, ⟨im, (fr 91 (by decide) (by decide) (by decide) (by decide) (by decide) (by decide)).trans p10, q10⟩⟩, ab_wrk_fr (fun a _ _ => fr a (by omega) (by omega) (by omega) (by omega) (by omega) (by omega)) hw⟩
          rw [s191_80]
          have c8 : ab_inR 8 = True := eq_true (by omega)
          simp only [s191_81, s191_83, s191_122, s191_123, s191_124, s191_127, s191_129, s191_130, s191_133, s191_134, s191_137, s191_138, s191_139, true_and, and_true, true_implies, Option.toList_some, Option.toList_none, List.nil_append, List.cons_append, List.map_nil, List.map_cons, List.sum_nil, List.sum_cons, Nat.zero_le, ab_nl_n, ab_nl_i, ab_nl_r, ab_nl_0, ab_cat_i, ab_cat_r, ab_cat_l, Nat.reduceAdd, Nat.reduceLeDiff, Nat.add_zero, Nat.zero_add, reduceIte, List.getElem?_cons_succ, List.getElem?_cons_zero, List.length_cons, List.length_nil, List.set_cons_zero, List.set_cons_succ, true_or, or_true, Classical.not_not, not_true_eq_false, not_false_eq_true, ab_01r, ab_01z, ab_01n, false_implies, ab_tt, Nat.reduceLT, Nat.reduceEqDiff, Int.reduceNeg, Int.reduceLT, Int.reduceLE, Int.add_zero, Int.zero_add, List.append_nil, Int.reduceEq, ab_sum1, ab_ri_0, ab_ri_1, ab_ri_2, ab_ri_3, ab_ri_4, ab_ri_5, ab_ri_6, ab_ri_7, ab_ri_8, ab_ri_12, ab_ri_30, ab_ri_60, ab_ri_100, ab_ri_101, ab_ri_127, ab_ri_m1, ab_ri_m2, ab_ri_m3, ab_ri_m4, ab_ri_m5, ab_ri_m11, ab_ri_m13, ab_ri_m14, ab_ri_10, ab_fd, ab_fs, ab_ai, ab_as, ab_fit, ab_tyf, tyX12, ab_mg_0, ab_mg_1, ab_mg_2, ab_mg_3, ab_mg_4, ab_mg_5, ab_mg_6, ab_mg_7, ab_mg_8, ab_mg_9, ab_mg_10, ab_mg_11, ab_mg_12, ab_mg_13, ab_mg_14, ab_mg_15, ab_mg_16, ab_mg_17, ab_mg_18, ab_mg_19, ab_mg_20, ab_mg_21, ab_mg_22, ab_mg_23, ab_mg_24, ab_mg_25, ab_mg_26, ab_mg_27, ab_mg_28, ab_mg_29, ab_mg_30, ab_mg_31, ab_mg_32, ab_mg_33, ab_ms_8, ab_ms_10, ab_ms_11, ab_ms_17, ab_ms_21, ab_ms_22, ab_ms_24, ab_ms_25, ab_ms_26, ab_ms_29, ab_ms_32, ab_mol_l, Nat.reduceLT, Nat.reduceLeDiff, O68, O91, O69', ab_hs_self, x53, x53', z4, e0, m4, Int.le_refl, q]
        · intro i i0 i9 ih h' C' D e3 hC' hD f3
          have c : ¬ 8 ≤ i := by omega
          have i8 : i < ((8 : Nat) : Int) := i9
          have x0 : 0 ≤ 36 + i := by omega
          have x1 : 36 + i < ((53 : Nat) : Int) := by omega
          have y0 : 0 ≤ 44 + i := by omega
          have y1 : 44 + i < ((53 : Nat) : Int) := by omega
          have O68 := (e3 68 (by decide) (by decide)).trans ((e2 68 (by decide)).trans ((e1 68 (by decide) (by decide)).trans hmo))
          have O91 := (e3 91 (by decide) (by decide)).trans ((e2 91 (by decide)).trans ((e1 91 (by decide) (by decide)).trans p10))
          have F68 : ab_hs h' 78 (ab_ia 8 (ab_ui C' i (X 13 i))) 68 = _ := (ab_hs_ne (by decide)).trans O68
          have F91 : ab_hs h' 78 (ab_ia 8 (ab_ui C' i (X 13 i))) 91 = _ := (ab_hs_ne (by decide)).trans O91
          have F79 : ab_hs h' 78 (ab_ia 8 (ab_ui C' i (X 13 i))) 79 = _ := (ab_hs_ne (by decide)).trans hD
          have ih := ih (ab_hs (ab_hs h' 78 (ab_ia 8 (ab_ui C' i (X 13 i)))) 79 (ab_ia 8 (ab_ui D i (X 14 i)))) (ab_ui C' i (X 13 i)) (ab_ui D i (X 14 i)) (fun a a1 a2 => (ab_hs_ne a2).trans ((ab_hs_ne a1).trans (e3 a a1 a2))) ((ab_hs_ne (by decide)).trans ab_hs_self) ab_hs_self (fun k k0 k1 => by
            by_cases e : k = i
            · rw [e, ab_ui_at, ab_ui_at]
              exact ⟨rfl, rfl⟩
            · rw [ab_ui_ne (by omega), ab_ui_ne (by omega)]
              exact f3 k k0 (by omega))
          rw [s191_80]
          simp only [s191_81, s191_83, s191_86, s191_87, s191_90, s191_91, s191_92, s191_95, s191_97, s191_98, s191_99, s191_100, s191_101, s191_102, s191_105, s191_106, s191_107, s191_110, s191_112, s191_113, s191_114, s191_115, s191_116, s191_119, true_and, and_true, true_implies, Option.toList_some, Option.toList_none, List.nil_append, List.cons_append, List.map_nil, List.map_cons, List.sum_nil, List.sum_cons, Nat.zero_le, ab_nl_n, ab_nl_i, ab_nl_r, ab_nl_0, ab_cat_i, ab_cat_r, ab_cat_l, Nat.reduceAdd, Nat.reduceLeDiff, Nat.add_zero, Nat.zero_add, reduceIte, List.getElem?_cons_succ, List.getElem?_cons_zero, List.length_cons, List.length_nil, List.set_cons_zero, List.set_cons_succ, true_or, or_true, Classical.not_not, not_true_eq_false, not_false_eq_true, ab_01r, ab_01z, ab_01n, false_implies, ab_tt, Nat.reduceLT, Nat.reduceEqDiff, Int.reduceNeg, Int.reduceLT, Int.reduceLE, Int.add_zero, Int.zero_add, List.append_nil, Int.reduceEq, ab_sum1, ab_ri_0, ab_ri_1, ab_ri_2, ab_ri_3, ab_ri_4, ab_ri_5, ab_ri_6, ab_ri_7, ab_ri_8, ab_ri_12, ab_ri_30, ab_ri_60, ab_ri_100, ab_ri_101, ab_ri_127, ab_ri_m1, ab_ri_m2, ab_ri_m3, ab_ri_m4, ab_ri_m5, ab_ri_m11, ab_ri_m13, ab_ri_m14, ab_ri_10, ab_fd, ab_fs, ab_ai, ab_as, ab_fit, ab_tyf, tyX12, ab_mg_0, ab_mg_1, ab_mg_2, ab_mg_3, ab_mg_4, ab_mg_5, ab_mg_6, ab_mg_7, ab_mg_8, ab_mg_9, ab_mg_10, ab_mg_11, ab_mg_12, ab_mg_13, ab_mg_14, ab_mg_15, ab_mg_16, ab_mg_17, ab_mg_18, ab_mg_19, ab_mg_20, ab_mg_21, ab_mg_22, ab_mg_23, ab_mg_24, ab_mg_25, ab_mg_26, ab_mg_27, ab_mg_28, ab_mg_29, ab_mg_30, ab_mg_31, ab_mg_32, ab_mg_33, ab_ms_8, ab_ms_10, ab_ms_11, ab_ms_17, ab_ms_21, ab_ms_22, ab_ms_24, ab_ms_25, ab_ms_26, ab_ms_29, ab_ms_32, ab_mol_l, Nat.reduceLT, Nat.reduceLeDiff, O68, O91, hC', F68, F91, F79, c, i0, i8, x0, x1, y0, y1, (m3 i i0 i9).1, (m3 i i0 i9).2, ih] <;> omega
      · intro i i0 i9 ih h' C e2 hC f2
        have c : ¬ 28 ≤ i := by omega
        have i28 : i < ((28 : Nat) : Int) := i9
        have x0 : 0 ≤ 8 + i := by omega
        have x1 : 8 + i < ((53 : Nat) : Int) := by omega
        have O68 := (e2 68 (by decide)).trans ((e1 68 (by decide) (by decide)).trans hmo)
        have O91 := (e2 91 (by decide)).trans ((e1 91 (by decide) (by decide)).trans p10)
        have ih := ih (ab_hs h' 75 (ab_ia 28 (ab_ui C i (X 12 i)))) (ab_ui C i (X 12 i)) (fun a a1 => (ab_hs_ne a1).trans (e2 a a1)) ab_hs_self (fun k k0 k1 => by
          by_cases e : k = i
          · rw [e, ab_ui_at]
          · rw [ab_ui_ne (by omega)]
            exact f2 k k0 (by omega))
        rw [s191_51]
        simp only [s191_52, s191_54, s191_57, s191_58, s191_61, s191_62, s191_63, s191_66, s191_68, s191_69, s191_70, s191_71, s191_72, s191_75, true_and, and_true, true_implies, Option.toList_some, Option.toList_none, List.nil_append, List.cons_append, List.map_nil, List.map_cons, List.sum_nil, List.sum_cons, Nat.zero_le, ab_nl_n, ab_nl_i, ab_nl_r, ab_nl_0, ab_cat_i, ab_cat_r, ab_cat_l, Nat.reduceAdd, Nat.reduceLeDiff, Nat.add_zero, Nat.zero_add, reduceIte, List.getElem?_cons_succ, List.getElem?_cons_zero, List.length_cons, List.length_nil, List.set_cons_zero, List.set_cons_succ, true_or, or_true, Classical.not_not, not_true_eq_false, not_false_eq_true, ab_01r, ab_01z, ab_01n, false_implies, ab_tt, Nat.reduceLT, Nat.reduceEqDiff, Int.reduceNeg, Int.reduceLT, Int.reduceLE, Int.add_zero, Int.zero_add, List.append_nil, Int.reduceEq, ab_sum1, ab_ri_0, ab_ri_1, ab_ri_2, ab_ri_3, ab_ri_4, ab_ri_5, ab_ri_6, ab_ri_7, ab_ri_8, ab_ri_12, ab_ri_30, ab_ri_60, ab_ri_100, ab_ri_101, ab_ri_127, ab_ri_m1, ab_ri_m2, ab_ri_m3, ab_ri_m4, ab_ri_m5, ab_ri_m11, ab_ri_m13, ab_ri_m14, ab_ri_10, ab_fd, ab_fs, ab_ai, ab_as, ab_fit, ab_tyf, tyX12, ab_mg_0, ab_mg_1, ab_mg_2, ab_mg_3, ab_mg_4, ab_mg_5, ab_mg_6, ab_mg_7, ab_mg_8, ab_mg_9, ab_mg_10, ab_mg_11, ab_mg_12, ab_mg_13, ab_mg_14, ab_mg_15, ab_mg_16, ab_mg_17, ab_mg_18, ab_mg_19, ab_mg_20, ab_mg_21, ab_mg_22, ab_mg_23, ab_mg_24, ab_mg_25, ab_mg_26, ab_mg_27, ab_mg_28, ab_mg_29, ab_mg_30, ab_mg_31, ab_mg_32, ab_mg_33, ab_ms_8, ab_ms_10, ab_ms_11, ab_ms_17, ab_ms_21, ab_ms_22, ab_ms_24, ab_ms_25, ab_ms_26, ab_ms_29, ab_ms_32, ab_mol_l, Nat.reduceLT, Nat.reduceLeDiff, O68, O91, hC, c, i0, i28, x0, x1, h28, m2 i i0 i9, ih] <;> omega
    · intro i i0 i9 ih h' L V e1 hL hV' f1
      have c : ¬ 4 ≤ i := by omega
      have i4 : i < ((4 : Nat) : Int) := i9
      have y : i < ((53 : Nat) : Int) := by omega
      have x0 : 0 ≤ 4 + i := by omega
      have x1 : 4 + i < ((53 : Nat) : Int) := by omega
      have O68 := (e1 68 (by decide) (by decide)).trans hmo
      have O91 := (e1 91 (by decide) (by decide)).trans p10
      have F68 : ab_hs h' 69 (ab_ia 4 (ab_ui L i (X 10 i))) 68 = _ := (ab_hs_ne (by decide)).trans O68
      have F91 : ab_hs h' 69 (ab_ia 4 (ab_ui L i (X 10 i))) 91 = _ := (ab_hs_ne (by decide)).trans O91
      have F74 : ab_hs h' 69 (ab_ia 4 (ab_ui L i (X 10 i))) 74 = _ := (ab_hs_ne (by decide)).trans hV'
      have ih := ih (ab_hs (ab_hs h' 69 (ab_ia 4 (ab_ui L i (X 10 i)))) 74 (ab_ia 4 (ab_ui V i (X 11 i)))) (ab_ui L i (X 10 i)) (ab_ui V i (X 11 i)) (fun a a1 a2 => (ab_hs_ne a2).trans ((ab_hs_ne a1).trans (e1 a a1 a2))) ((ab_hs_ne (by decide)).trans ab_hs_self) ab_hs_self (fun k k0 k1 => by
        by_cases e : k = i
        · rw [e, ab_ui_at, ab_ui_at]
          exact ⟨rfl, rfl⟩
        · rw [ab_ui_ne (by omega), ab_ui_ne (by omega)]
          exact f1 k k0 (by omega))
      rw [s191_12]
      simp only [s191_13, s191_14, s191_17, s191_18, s191_21, s191_22, s191_23, s191_26, s191_27, s191_28, s191_29, s191_30, s191_33, s191_34, s191_35, s191_38, s191_39, s191_40, s191_41, s191_42, s191_43, s191_46, true_and, and_true, true_implies, Option.toList_some, Option.toList_none, List.nil_append, List.cons_append, List.map_nil, List.map_cons, List.sum_nil, List.sum_cons, Nat.zero_le, ab_nl_n, ab_nl_i, ab_nl_r, ab_nl_0, ab_cat_i, ab_cat_r, ab_cat_l, Nat.reduceAdd, Nat.reduceLeDiff, Nat.add_zero, Nat.zero_add, reduceIte, List.getElem?_cons_succ, List.getElem?_cons_zero, List.length_cons, List.length_nil, List.set_cons_zero, List.set_cons_succ, true_or, or_true, Classical.not_not, not_true_eq_false, not_false_eq_true, ab_01r, ab_01z, ab_01n, false_implies, ab_tt, Nat.reduceLT, Nat.reduceEqDiff, Int.reduceNeg, Int.reduceLT, Int.reduceLE, Int.add_zero, Int.zero_add, List.append_nil, Int.reduceEq, ab_sum1, ab_ri_0, ab_ri_1, ab_ri_2, ab_ri_3, ab_ri_4, ab_ri_5, ab_ri_6, ab_ri_7, ab_ri_8, ab_ri_12, ab_ri_30, ab_ri_60, ab_ri_100, ab_ri_101, ab_ri_127, ab_ri_m1, ab_ri_m2, ab_ri_m3, ab_ri_m4, ab_ri_m5, ab_ri_m11, ab_ri_m13, ab_ri_m14, ab_ri_10, ab_fd, ab_fs, ab_ai, ab_as, ab_fit, ab_tyf, tyX12, ab_mg_0, ab_mg_1, ab_mg_2, ab_mg_3, ab_mg_4, ab_mg_5, ab_mg_6, ab_mg_7, ab_mg_8, ab_mg_9, ab_mg_10, ab_mg_11, ab_mg_12, ab_mg_13, ab_mg_14, ab_mg_15, ab_mg_16, ab_mg_17, ab_mg_18, ab_mg_19, ab_mg_20, ab_mg_21, ab_mg_22, ab_mg_23, ab_mg_24, ab_mg_25, ab_mg_26, ab_mg_27, ab_mg_28, ab_mg_29, ab_mg_30, ab_mg_31, ab_mg_32, ab_mg_33, ab_ms_8, ab_ms_10, ab_ms_11, ab_ms_17, ab_ms_21, ab_ms_22, ab_ms_24, ab_ms_25, ab_ms_26, ab_ms_29, ab_ms_32, ab_mol_l, Nat.reduceLT, Nat.reduceLeDiff, O68, O91, hL, F68, F91, F74, c, i0, i4, y, x0, x1, (m1 i i0 i9).1, (m1 i i0 i9).2, ih] <;> omega
end MK
