/-! ===== Grid: rows times, columns cleared ===== -/
theorem ab_u2_mw {M : Int → Int → Int} {r y i : Int} (h0 : 0 ≤ i) : ab_u2 (ab_mw M r y i) r i (M r i * y % 101) = ab_mw M r y (i + 1) := by
  funext x z
  unfold ab_u2 ab_mw
  by_cases c1 : x = r ∧ z = i
  · obtain ⟨rfl, rfl⟩ := c1
    rw [if_pos ⟨rfl, rfl⟩, if_pos (by omega)]
  · rw [if_neg c1]
    by_cases c2 : x = r ∧ 0 ≤ z ∧ z < i
    · rw [if_pos c2, if_pos (by omega)]
    · rw [if_neg c2, if_neg (by omega)]
theorem ab_mw_at {M : Int → Int → Int} {r y i : Int} : ab_mw M r y i r i = M r i := if_neg (by omega)
theorem ab_u2_cw {M : Int → Int → Int} {r pr t i : Int} (h0 : 0 ≤ i) : ab_u2 (ab_cw M r pr t i) r i ((M r i + t * M pr i) % 101) = ab_cw M r pr t (i + 1) := by
  funext x z
  unfold ab_u2 ab_cw
  by_cases c1 : x = r ∧ z = i
  · obtain ⟨rfl, rfl⟩ := c1
    rw [if_pos ⟨rfl, rfl⟩, if_pos (by omega)]
  · rw [if_neg c1]
    by_cases c2 : x = r ∧ 0 ≤ z ∧ z < i
    · rw [if_pos c2, if_pos (by omega)]
    · rw [if_neg c2, if_neg (by omega)]
theorem ab_cw_at {M : Int → Int → Int} {r pr t i : Int} : ab_cw M r pr t i r i = M r i := if_neg (by omega)
theorem ab_cw_pr {M : Int → Int → Int} {r pr t i j : Int} (h : pr ≠ r) : ab_cw M r pr t i pr j = M pr j := if_neg (fun z => h z.1)
section GR2
variable {h : ab_H} {n : Nat} {Q : ab_Q} {a b p : Nat} {R C F P : Int} {M : Int → Int → Int}
theorem sp_multiplyRow {r y : Int} (h6 : 6 ≤ a) (hb6 : 6 ≤ b) (hab : a ≠ b) (h1 : h a = some (ab_gr b p R C F P)) (h2 : h b = some (ab_ia 84 (ab_flt M))) (hv : ab_v2 M) (hC : 0 ≤ C ∧ C ≤ 7) (hr : 0 ≤ r ∧ r < 12) (hy : 0 ≤ y ∧ y ≤ 100) (q : Q none (ab_hs h b (ab_ia 84 (ab_flt (ab_mw M r y C)))) n) : ab_G 11 0 [some (vr a), some (vi r), some (vi y), none] [] h n (0, 0) Q := by
  simp only [s11_0, s11_1, true_and, and_true, true_implies, Option.toList_some, Option.toList_none, List.nil_append, List.cons_append, List.map_nil, List.map_cons, List.sum_nil, List.sum_cons, Nat.zero_le, ab_nl_n, ab_nl_i, ab_nl_r, ab_nl_0, ab_cat_i, ab_cat_r, ab_cat_l, Nat.reduceAdd, Nat.reduceLeDiff, Nat.add_zero, Nat.zero_add, reduceIte, List.getElem?_cons_succ, List.getElem?_cons_zero, List.length_cons, List.length_nil, List.set_cons_zero, List.set_cons_succ, true_or, or_true, Classical.not_not, not_true_eq_false, not_false_eq_true, ab_01r, ab_01z, ab_01n, false_implies, ab_tt, Nat.reduceLT, Nat.reduceEqDiff, Int.reduceNeg, Int.reduceLT, Int.reduceLE, Int.add_zero, Int.zero_add, List.append_nil, Int.reduceEq, ab_sum1, ab_ri_0, ab_ri_1, ab_ri_2, ab_ri_3, ab_ri_4, ab_ri_5, ab_ri_6, ab_ri_7, ab_ri_8, ab_ri_12, ab_ri_30, ab_ri_60, ab_ri_100, ab_ri_101, ab_ri_127, ab_ri_m1, ab_ri_m2, ab_ri_m3, ab_ri_m4, ab_ri_m5, ab_ri_m11, ab_ri_m13, ab_ri_m14, ab_ri_10]
  refine ab_lp 0 C (fun i => [some (vr a), some (vi r), some (vi y), some (vi i)]) (fun i => ab_hs h b (ab_ia 84 (ab_flt (ab_mw M r y i)))) hC.1 rfl ?_ ?_ ?_
  · have : ab_mw M r y 0 = M := by funext x z; unfold ab_mw; rw [if_neg (by omega)]
    rw [this, ab_hs_id h2]
  · rw [s11_2]
    simp only [s11_3, s11_4, s11_7, s11_10, s11_11, s11_14, s11_15, s11_17, s11_18, s11_19, s11_20, s11_21, s11_24, s11_25, s11_27, s11_28, s11_29, s11_30, s11_31, s11_32, s11_33, s11_35, s11_36, s11_37, s11_40, s11_43, true_and, and_true, true_implies, Option.toList_some, Option.toList_none, List.nil_append, List.cons_append, List.map_nil, List.map_cons, List.sum_nil, List.sum_cons, Nat.zero_le, ab_nl_n, ab_nl_i, ab_nl_r, ab_nl_0, ab_cat_i, ab_cat_r, ab_cat_l, Nat.reduceAdd, Nat.reduceLeDiff, Nat.add_zero, Nat.zero_add, reduceIte, List.getElem?_cons_succ, List.getElem?_cons_zero, List.length_cons, List.length_nil, List.set_cons_zero, List.set_cons_succ, true_or, or_true, Classical.not_not, not_true_eq_false, not_false_eq_true, ab_01r, ab_01z, ab_01n, false_implies, ab_tt, Nat.reduceLT, Nat.reduceEqDiff, Int.reduceNeg, Int.reduceLT, Int.reduceLE, Int.add_zero, Int.zero_add, List.append_nil, Int.reduceEq, ab_sum1, ab_ri_0, ab_ri_1, ab_ri_2, ab_ri_3, ab_ri_4, ab_ri_5, ab_ri_6, ab_ri_7, ab_ri_8, ab_ri_12, ab_ri_30, ab_ri_60, ab_ri_100, ab_ri_101, ab_ri_127, ab_ri_m1, ab_ri_m2, ab_ri_m3, ab_ri_m4, ab_ri_m5, ab_ri_m11, ab_ri_m13, ab_ri_m14, ab_ri_10, ab_fd, ab_hs_ne hab, h1, h6, Int.le_refl, Int.lt_irrefl, q] <;> omega
  · intro i h0 h9 ih
    have hn : ¬ C ≤ i := by omega
    have i7 : i < 7 := by omega
    have e1 : 0 ≤ r * 7 + i := by omega
    have e2 : r * 7 + i < ((84 : Nat) : Int) := by omega
    have hm := hv r i hr.1 hr.2 h0 i7
    have hm0 : 0 ≤ M r i * y := Int.mul_nonneg hm.1 hy.1
    have hm1 : M r i * y ≤ 100 * 100 := Int.mul_le_mul hm.2 hy.2 hy.1 (by omega)
    rw [s11_2]
    simp only [s11_3, s11_4, s11_7, s11_10, s11_11, s11_14, s11_15, s11_17, s11_18, s11_19, s11_20, s11_21, s11_24, s11_25, s11_27, s11_28, s11_29, s11_30, s11_31, s11_32, s11_33, s11_35, s11_36, s11_37, s11_40, s11_43, true_and, and_true, true_implies, Option.toList_some, Option.toList_none, List.nil_append, List.cons_append, List.map_nil, List.map_cons, List.sum_nil, List.sum_cons, Nat.zero_le, ab_nl_n, ab_nl_i, ab_nl_r, ab_nl_0, ab_cat_i, ab_cat_r, ab_cat_l, Nat.reduceAdd, Nat.reduceLeDiff, Nat.add_zero, Nat.zero_add, reduceIte, List.getElem?_cons_succ, List.getElem?_cons_zero, List.length_cons, List.length_nil, List.set_cons_zero, List.set_cons_succ, true_or, or_true, Classical.not_not, not_true_eq_false, not_false_eq_true, ab_01r, ab_01z, ab_01n, false_implies, ab_tt, Nat.reduceLT, Nat.reduceEqDiff, Int.reduceNeg, Int.reduceLT, Int.reduceLE, Int.add_zero, Int.zero_add, List.append_nil, Int.reduceEq, ab_sum1, ab_ri_0, ab_ri_1, ab_ri_2, ab_ri_3, ab_ri_4, ab_ri_5, ab_ri_6, ab_ri_7, ab_ri_8, ab_ri_12, ab_ri_30, ab_ri_60, ab_ri_100, ab_ri_101, ab_ri_127, ab_ri_m1, ab_ri_m2, ab_ri_m3, ab_ri_m4, ab_ri_m5, ab_ri_m11, ab_ri_m13, ab_ri_m14, ab_ri_10, ab_fd, ab_ai, ab_as, ab_hs_self, ab_hs_hs, ab_hs_ne hab, h1, h6, hb6, hn, h9, e1, e2, ab_flt_at h0 i7, ab_flt_ui h0 i7, ab_mw_at, ab_md hm0, ab_u2_mw h0, ih] <;> omega
theorem sp_clearColumn {col pr : Int} (h6 : 6 ≤ a) (hb6 : 6 ≤ b) (hab : a ≠ b) (h1 : h a = some (ab_gr b p R C F P)) (h2 : h b = some (ab_ia 84 (ab_flt M))) (hv : ab_v2 M) (hR : 0 ≤ R ∧ R ≤ 12) (hC : 0 ≤ C ∧ C ≤ 7) (hc : 0 ≤ col ∧ col < 7) (hp : 0 ≤ pr ∧ pr < 12) (q : Q none (ab_hs h b (ab_ia 84 (ab_flt (ab_cl M col pr C R.toNat)))) n) : ab_G 12 0 [some (vr a), some (vi col), some (vi pr), none, none, none, none] [] h n (0, 0) Q := by
  simp only [s12_0, s12_1, true_and, and_true, true_implies, Option.toList_some, Option.toList_none, List.nil_append, List.cons_append, List.map_nil, List.map_cons, List.sum_nil, List.sum_cons, Nat.zero_le, ab_nl_n, ab_nl_i, ab_nl_r, ab_nl_0, ab_cat_i, ab_cat_r, ab_cat_l, Nat.reduceAdd, Nat.reduceLeDiff, Nat.add_zero, Nat.zero_add, reduceIte, List.getElem?_cons_succ, List.getElem?_cons_zero, List.length_cons, List.length_nil, List.set_cons_zero, List.set_cons_succ, true_or, or_true, Classical.not_not, not_true_eq_false, not_false_eq_true, ab_01r, ab_01z, ab_01n, false_implies, ab_tt, Nat.reduceLT, Nat.reduceEqDiff, Int.reduceNeg, Int.reduceLT, Int.reduceLE, Int.add_zero, Int.zero_add, List.append_nil, Int.reduceEq, ab_sum1, ab_ri_0, ab_ri_1, ab_ri_2, ab_ri_3, ab_ri_4, ab_ri_5, ab_ri_6, ab_ri_7, ab_ri_8, ab_ri_12, ab_ri_30, ab_ri_60, ab_ri_100, ab_ri_101, ab_ri_127, ab_ri_m1, ab_ri_m2, ab_ri_m3, ab_ri_m4, ab_ri_m5, ab_ri_m11, ab_ri_m13, ab_ri_m14, ab_ri_10]
  have key := ab_dn (P := fun i => ∀ l4 l5 l6 : Option ab_V, ab_nl [l4, l5, l6] = true → ab_nl [l5, l6] = true → ab_nl [l6] = true → ab_G 12 2 [some (vr a), some (vi col), some (vi pr), some (vi i), l4, l5, l6] [] (ab_hs h b (ab_ia 84 (ab_flt (ab_cl M col pr C i.toNat)))) n (0, 0) Q) (a := 0) (e := R) hR.1 ?_ ?_
  · have := key none none none rfl rfl rfl
    rw [show (0 : Int).toNat = 0 from rfl, ab_cl, ab_hs_id h2] at this
    exact this
  · intro l4 l5 l6 k4 k5 k6
    rw [s12_2]
    simp only [s12_3, s12_4, s12_7, s12_10, s12_12, s12_13, s12_16, s12_17, s12_19, s12_20, s12_21, s12_22, s12_23, s12_24, s12_26, s12_27, s12_28, s12_31, s12_33, s12_35, s12_38, s12_41, s12_42, s12_44, s12_46, s12_47, s12_50, s12_53, s12_54, s12_57, s12_58, s12_60, s12_61, s12_63, s12_64, s12_65, s12_67, s12_68, s12_71, s12_72, s12_74, s12_75, s12_77, s12_78, s12_79, s12_80, s12_81, s12_83, s12_84, s12_87, s12_88, s12_90, s12_91, s12_93, s12_94, s12_96, s12_98, s12_99, s12_100, s12_103, s12_106, s12_109, s12_112, true_and, and_true, true_implies, Option.toList_some, Option.toList_none, List.nil_append, List.cons_append, List.map_nil, List.map_cons, List.sum_nil, List.sum_cons, Nat.zero_le, ab_nl_n, ab_nl_i, ab_nl_r, ab_nl_0, ab_cat_i, ab_cat_r, ab_cat_l, Nat.reduceAdd, Nat.reduceLeDiff, Nat.add_zero, Nat.zero_add, reduceIte, List.getElem?_cons_succ, List.getElem?_cons_zero, List.length_cons, List.length_nil, List.set_cons_zero, List.set_cons_succ, true_or, or_true, Classical.not_not, not_true_eq_false, not_false_eq_true, ab_01r, ab_01z, ab_01n, false_implies, ab_tt, Nat.reduceLT, Nat.reduceEqDiff, Int.reduceNeg, Int.reduceLT, Int.reduceLE, Int.add_zero, Int.zero_add, List.append_nil, Int.reduceEq, ab_sum1, ab_ri_0, ab_ri_1, ab_ri_2, ab_ri_3, ab_ri_4, ab_ri_5, ab_ri_6, ab_ri_7, ab_ri_8, ab_ri_12, ab_ri_30, ab_ri_60, ab_ri_100, ab_ri_101, ab_ri_127, ab_ri_m1, ab_ri_m2, ab_ri_m3, ab_ri_m4, ab_ri_m5, ab_ri_m11, ab_ri_m13, ab_ri_m14, ab_ri_10, ab_fd, ab_hs_ne hab, h1, h6, Int.le_refl, Int.lt_irrefl, k4, k5, k6, q] <;> omega
  · intro i h0 h9 ih l4 l5 l6 k4 k5 k6
    have ei : (i + 1).toNat = i.toNat + 1 := by omega
    have ec : ((i.toNat : Nat) : Int) = i := Int.toNat_of_nonneg h0
    have hvi := ab_v2_cl (col := col) (pr := pr) (C := C) hv i.toNat
    rw [ei, ab_cl, ec] at ih
    revert ih
    generalize ab_cl M col pr C i.toNat = N at hvi ⊢
    intro ih
    have hn : ¬ R ≤ i := by omega
    have e1 : 0 ≤ i * 7 + col := by omega
    have e2 : i * 7 + col < ((84 : Nat) : Int) := by omega
    have hm := hvi i col h0 (by omega) hc.1 hc.2
    have hir : ab_inR i = True := eq_true (by omega)
    have hpr : ab_inR pr = True := eq_true (by omega)
    have htr : ab_inR (101 - N i col) = True := eq_true (by omega)
    rw [s12_2]
    by_cases c1 : i = pr
    · rw [if_pos (Or.inl c1)] at ih
      subst c1
      have ih := ih (some (vi (101 - N i col))) l5 l6 k5 k5 k6
      simp only [s12_3, s12_4, s12_7, s12_10, s12_12, s12_13, s12_16, s12_17, s12_19, s12_20, s12_21, s12_22, s12_23, s12_24, s12_26, s12_27, s12_28, s12_106, s12_109, true_and, and_true, true_implies, Option.toList_some, Option.toList_none, List.nil_append, List.cons_append, List.map_nil, List.map_cons, List.sum_nil, List.sum_cons, Nat.zero_le, ab_nl_n, ab_nl_i, ab_nl_r, ab_nl_0, ab_cat_i, ab_cat_r, ab_cat_l, Nat.reduceAdd, Nat.reduceLeDiff, Nat.add_zero, Nat.zero_add, reduceIte, List.getElem?_cons_succ, List.getElem?_cons_zero, List.length_cons, List.length_nil, List.set_cons_zero, List.set_cons_succ, true_or, or_true, Classical.not_not, not_true_eq_false, not_false_eq_true, ab_01r, ab_01z, ab_01n, false_implies, ab_tt, Nat.reduceLT, Nat.reduceEqDiff, Int.reduceNeg, Int.reduceLT, Int.reduceLE, Int.add_zero, Int.zero_add, List.append_nil, Int.reduceEq, ab_sum1, ab_ri_0, ab_ri_1, ab_ri_2, ab_ri_3, ab_ri_4, ab_ri_5, ab_ri_6, ab_ri_7, ab_ri_8, ab_ri_12, ab_ri_30, ab_ri_60, ab_ri_100, ab_ri_101, ab_ri_127, ab_ri_m1, ab_ri_m2, ab_ri_m3, ab_ri_m4, ab_ri_m5, ab_ri_m11, ab_ri_m13, ab_ri_m14, ab_ri_10, ab_fd, ab_ai, ab_hs_self, ab_hs_ne hab, h1, h6, hb6, hn, h9, e1, e2, ab_flt_at hc.1 hc.2, hir, k4, k5, k6, ih] <;> omega
    · by_cases c2 : N i col = 0
      · rw [if_pos (Or.inr c2)] at ih
        have ht : 101 - N i col = 101 := by omega
        have ih := ih (some (vi (101 - N i col))) l5 l6 k5 k5 k6
        rw [ht] at ih
        simp only [s12_3, s12_4, s12_7, s12_10, s12_12, s12_13, s12_16, s12_17, s12_19, s12_20, s12_21, s12_22, s12_23, s12_24, s12_26, s12_27, s12_28, s12_31, s12_33, s12_35, s12_38, s12_106, s12_109, true_and, and_true, true_implies, Option.toList_some, Option.toList_none, List.nil_append, List.cons_append, List.map_nil, List.map_cons, List.sum_nil, List.sum_cons, Nat.zero_le, ab_nl_n, ab_nl_i, ab_nl_r, ab_nl_0, ab_cat_i, ab_cat_r, ab_cat_l, Nat.reduceAdd, Nat.reduceLeDiff, Nat.add_zero, Nat.zero_add, reduceIte, List.getElem?_cons_succ, List.getElem?_cons_zero, List.length_cons, List.length_nil, List.set_cons_zero, List.set_cons_succ, true_or, or_true, Classical.not_not, not_true_eq_false, not_false_eq_true, ab_01r, ab_01z, ab_01n, false_implies, ab_tt, Nat.reduceLT, Nat.reduceEqDiff, Int.reduceNeg, Int.reduceLT, Int.reduceLE, Int.add_zero, Int.zero_add, List.append_nil, Int.reduceEq, ab_sum1, ab_ri_0, ab_ri_1, ab_ri_2, ab_ri_3, ab_ri_4, ab_ri_5, ab_ri_6, ab_ri_7, ab_ri_8, ab_ri_12, ab_ri_30, ab_ri_60, ab_ri_100, ab_ri_101, ab_ri_127, ab_ri_m1, ab_ri_m2, ab_ri_m3, ab_ri_m4, ab_ri_m5, ab_ri_m11, ab_ri_m13, ab_ri_m14, ab_ri_10, ab_fd, ab_ai, ab_hs_self, ab_hs_ne hab, h1, h6, hb6, hn, h9, e1, e2, ab_flt_at hc.1 hc.2, hir, hpr, c1, ht, k4, k5, k6, ih] <;> omega
      · rw [if_neg (fun z => z.elim c1 c2)] at ih
        have ht : ¬ 101 - N i col = 101 := by omega
        simp only [s12_3, s12_4, s12_7, s12_10, s12_12, s12_13, s12_16, s12_17, s12_19, s12_20, s12_21, s12_22, s12_23, s12_24, s12_26, s12_27, s12_28, s12_31, s12_33, s12_35, s12_38, s12_41, s12_42, true_and, and_true, true_implies, Option.toList_some, Option.toList_none, List.nil_append, List.cons_append, List.map_nil, List.map_cons, List.sum_nil, List.sum_cons, Nat.zero_le, ab_nl_n, ab_nl_i, ab_nl_r, ab_nl_0, ab_cat_i, ab_cat_r, ab_cat_l, Nat.reduceAdd, Nat.reduceLeDiff, Nat.add_zero, Nat.zero_add, reduceIte, List.getElem?_cons_succ, List.getElem?_cons_zero, List.length_cons, List.length_nil, List.set_cons_zero, List.set_cons_succ, true_or, or_true, Classical.not_not, not_true_eq_false, not_false_eq_true, ab_01r, ab_01z, ab_01n, false_implies, ab_tt, Nat.reduceLT, Nat.reduceEqDiff, Int.reduceNeg, Int.reduceLT, Int.reduceLE, Int.add_zero, Int.zero_add, List.append_nil, Int.reduceEq, ab_sum1, ab_ri_0, ab_ri_1, ab_ri_2, ab_ri_3, ab_ri_4, ab_ri_5, ab_ri_6, ab_ri_7, ab_ri_8, ab_ri_12, ab_ri_30, ab_ri_60, ab_ri_100, ab_ri_101, ab_ri_127, ab_ri_m1, ab_ri_m2, ab_ri_m3, ab_ri_m4, ab_ri_m5, ab_ri_m11, ab_ri_m13, ab_ri_m14, ab_ri_10, ab_fd, ab_ai, ab_hs_self, ab_hs_ne hab, h1, h6, hb6, hn, h9, e1, e2, ab_flt_at hc.1 hc.2, hir, hpr, c1, ht, k4, k5, k6]
        refine ⟨by omega, by omega, ?_⟩
        have hT : 0 ≤ 101 - N i col ∧ 101 - N i col ≤ 101 := by omega
        revert ih hT
        generalize 101 - N i col = t
        intro ih hT
        have key := ab_dn (P := fun j => ∀ l6 : Option ab_V, ab_nl [l6] = true → ab_G 12 44 [some (vr a), some (vi col), some (vi pr), some (vi i), some (vi t), some (vi j), l6] [] (ab_hs h b (ab_ia 84 (ab_flt (ab_cw N i pr t j)))) n (0, 0) Q) (a := 0) (e := C) hC.1 ?_ ?_
        · have := key l6 k6
          rw [show ab_cw N i pr t 0 = N by funext x z; unfold ab_cw; rw [if_neg (by omega)]] at this
          exact this
        · intro l k
          have ih := ih (some (vi t)) (some (vi C)) l k k k
          rw [s12_44]
          simp only [s12_46, s12_47, s12_50, s12_53, s12_54, s12_57, s12_58, s12_60, s12_61, s12_63, s12_64, s12_65, s12_67, s12_68, s12_71, s12_72, s12_74, s12_75, s12_77, s12_78, s12_79, s12_80, s12_81, s12_83, s12_84, s12_87, s12_88, s12_90, s12_91, s12_93, s12_94, s12_96, s12_98, s12_99, s12_100, s12_103, s12_106, s12_109, true_and, and_true, true_implies, Option.toList_some, Option.toList_none, List.nil_append, List.cons_append, List.map_nil, List.map_cons, List.sum_nil, List.sum_cons, Nat.zero_le, ab_nl_n, ab_nl_i, ab_nl_r, ab_nl_0, ab_cat_i, ab_cat_r, ab_cat_l, Nat.reduceAdd, Nat.reduceLeDiff, Nat.add_zero, Nat.zero_add, reduceIte, List.getElem?_cons_succ, List.getElem?_cons_zero, List.length_cons, List.length_nil, List.set_cons_zero, List.set_cons_succ, true_or, or_true, Classical.not_not, not_true_eq_false, not_false_eq_true, ab_01r, ab_01z, ab_01n, false_implies, ab_tt, Nat.reduceLT, Nat.reduceEqDiff, Int.reduceNeg, Int.reduceLT, Int.reduceLE, Int.add_zero, Int.zero_add, List.append_nil, Int.reduceEq, ab_sum1, ab_ri_0, ab_ri_1, ab_ri_2, ab_ri_3, ab_ri_4, ab_ri_5, ab_ri_6, ab_ri_7, ab_ri_8, ab_ri_12, ab_ri_30, ab_ri_60, ab_ri_100, ab_ri_101, ab_ri_127, ab_ri_m1, ab_ri_m2, ab_ri_m3, ab_ri_m4, ab_ri_m5, ab_ri_m11, ab_ri_m13, ab_ri_m14, ab_ri_10, ab_fd, ab_hs_ne hab, h1, h6, Int.le_refl, Int.lt_irrefl, hir, k, ih] <;> omega
        · intro j j0 j9 jh l k
          have jn : ¬ C ≤ j := by omega
          have j7 : j < 7 := by omega
          have f1 : 0 ≤ i * 7 + j := by omega
          have f2 : i * 7 + j < ((84 : Nat) : Int) := by omega
          have f3 : 0 ≤ pr * 7 + j := by omega
          have f4 : pr * 7 + j < ((84 : Nat) : Int) := by omega
          have m1 := hvi i j h0 (by omega) j0 j7
          have m2 := hvi pr j hp.1 hp.2 j0 j7
          have m3 : 0 ≤ t * N pr j := Int.mul_nonneg hT.1 m2.1
          have m4 : t * N pr j ≤ 101 * 100 := Int.mul_le_mul hT.2 m2.2 m2.1 (by omega)
          have m5 : 0 ≤ N i j + t * N pr j := by omega
          have jh := jh (some (vi (N i j + t * N pr j))) rfl
          rw [s12_44]
          simp only [s12_46, s12_47, s12_50, s12_53, s12_54, s12_57, s12_58, s12_60, s12_61, s12_63, s12_64, s12_65, s12_67, s12_68, s12_71, s12_72, s12_74, s12_75, s12_77, s12_78, s12_79, s12_80, s12_81, s12_83, s12_84, s12_87, s12_88, s12_90, s12_91, s12_93, s12_94, s12_96, s12_98, s12_99, s12_100, s12_103, true_and, and_true, true_implies, Option.toList_some, Option.toList_none, List.nil_append, List.cons_append, List.map_nil, List.map_cons, List.sum_nil, List.sum_cons, Nat.zero_le, ab_nl_n, ab_nl_i, ab_nl_r, ab_nl_0, ab_cat_i, ab_cat_r, ab_cat_l, Nat.reduceAdd, Nat.reduceLeDiff, Nat.add_zero, Nat.zero_add, reduceIte, List.getElem?_cons_succ, List.getElem?_cons_zero, List.length_cons, List.length_nil, List.set_cons_zero, List.set_cons_succ, true_or, or_true, Classical.not_not, not_true_eq_false, not_false_eq_true, ab_01r, ab_01z, ab_01n, false_implies, ab_tt, Nat.reduceLT, Nat.reduceEqDiff, Int.reduceNeg, Int.reduceLT, Int.reduceLE, Int.add_zero, Int.zero_add, List.append_nil, Int.reduceEq, ab_sum1, ab_ri_0, ab_ri_1, ab_ri_2, ab_ri_3, ab_ri_4, ab_ri_5, ab_ri_6, ab_ri_7, ab_ri_8, ab_ri_12, ab_ri_30, ab_ri_60, ab_ri_100, ab_ri_101, ab_ri_127, ab_ri_m1, ab_ri_m2, ab_ri_m3, ab_ri_m4, ab_ri_m5, ab_ri_m11, ab_ri_m13, ab_ri_m14, ab_ri_10, ab_fd, ab_ai, ab_as, ab_hs_self, ab_hs_hs, ab_hs_ne hab, h1, h6, hb6, jn, j9, f1, f2, f3, f4, ab_flt_at j0 j7, ab_flt_ui j0 j7, ab_cw_at, ab_cw_pr (Ne.symm c1), ab_md m5, ab_u2_cw j0, k, jh] <;> omega
end GR2
