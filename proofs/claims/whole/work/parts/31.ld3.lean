/-! ===== Ladder: joined ===== -/
def ab_jn (k rest st : Int) : Nat → Int
  | 0 => st
  | i + 1 => if ab_FIRST (st + i) = k ∧ ab_REST (st + i) = rest then st + i else ab_jn k rest st i
theorem ab_jn_r {k rest st : Int} : ∀ i : Nat, st ≤ ab_jn k rest st i ∧ ab_jn k rest st i ≤ st + i
  | 0 => by unfold ab_jn; omega
  | i + 1 => by
    have ih := ab_jn_r (k := k) (rest := rest) (st := st) i
    unfold ab_jn
    split <;> omega
section LD3
variable {h : ab_H} {n : Nat} {Q : ab_Q}
theorem sp_joined {k rest t : Int} (hst : ab_stat h) (hk : ab_inR k) (hr : ab_inR rest) (ht : 0 ≤ t ∧ t ≤ 5) (q : Q (some (vi (ab_jn k rest (ab_START t) (ab_wd t).toNat))) h n) : ab_G 23 0 [some (vi k), some (vi rest), some (vi t), none, none] [] h n (0, 0) Q := by
  have hw := ab_wd_eq ht.1 (by omega)
  have w7 : t < ((7 : Nat) : Int) := by omega
  have w8 : t + 1 < ((7 : Nat) : Int) := by omega
  have w9 : 0 ≤ t + 1 := by omega
  simp only [s23_0, s23_3, s23_4, s23_5, s23_6, s23_9, s23_10, s23_11, true_and, and_true, true_implies, Option.toList_some, Option.toList_none, List.nil_append, List.cons_append, List.map_nil, List.map_cons, List.sum_nil, List.sum_cons, Nat.zero_le, ab_nl_n, ab_nl_i, ab_nl_r, ab_nl_0, ab_cat_i, ab_cat_r, ab_cat_l, Nat.reduceAdd, Nat.reduceLeDiff, Nat.add_zero, Nat.zero_add, reduceIte, List.getElem?_cons_succ, List.getElem?_cons_zero, List.length_cons, List.length_nil, List.set_cons_zero, List.set_cons_succ, true_or, or_true, Classical.not_not, not_true_eq_false, not_false_eq_true, ab_01r, ab_01z, ab_01n, false_implies, ab_tt, Nat.reduceLT, Nat.reduceEqDiff, Int.reduceNeg, Int.reduceLT, Int.reduceLE, Int.add_zero, Int.zero_add, List.append_nil, Int.reduceEq, ab_sum1, ab_ri_0, ab_ri_1, ab_ri_2, ab_ri_3, ab_ri_4, ab_ri_5, ab_ri_6, ab_ri_7, ab_ri_8, ab_ri_12, ab_ri_30, ab_ri_60, ab_ri_100, ab_ri_101, ab_ri_127, ab_ri_m1, ab_ri_m2, ab_ri_m3, ab_ri_m4, ab_ri_m5, ab_ri_m11, ab_ri_m13, ab_ri_m14, ab_ri_10, ab_ai, hst.1, ht.1, w7]
  refine ab_lp 0 (ab_wd t) (fun i => [some (vi k), some (vi rest), some (vi t), some (vi (ab_jn k rest (ab_START t) i.toNat)), some (vi (ab_START t + i))]) (fun _ => h) (by omega) (by rw [Int.add_zero]; rfl) rfl ?_ ?_
  · have hb := ab_jn_r (k := k) (rest := rest) (st := ab_START t) (ab_wd t).toNat
    rw [s23_13]
    simp only [s23_15, s23_18, s23_19, s23_20, s23_21, s23_22, s23_25, s23_28, s23_30, s23_31, s23_32, s23_35, s23_38, s23_40, s23_41, s23_42, s23_45, s23_47, s23_48, s23_51, s23_54, s23_55, true_and, and_true, true_implies, Option.toList_some, Option.toList_none, List.nil_append, List.cons_append, List.map_nil, List.map_cons, List.sum_nil, List.sum_cons, Nat.zero_le, ab_nl_n, ab_nl_i, ab_nl_r, ab_nl_0, ab_cat_i, ab_cat_r, ab_cat_l, Nat.reduceAdd, Nat.reduceLeDiff, Nat.add_zero, Nat.zero_add, reduceIte, List.getElem?_cons_succ, List.getElem?_cons_zero, List.length_cons, List.length_nil, List.set_cons_zero, List.set_cons_succ, true_or, or_true, Classical.not_not, not_true_eq_false, not_false_eq_true, ab_01r, ab_01z, ab_01n, false_implies, ab_tt, Nat.reduceLT, Nat.reduceEqDiff, Int.reduceNeg, Int.reduceLT, Int.reduceLE, Int.add_zero, Int.zero_add, List.append_nil, Int.reduceEq, ab_sum1, ab_ri_0, ab_ri_1, ab_ri_2, ab_ri_3, ab_ri_4, ab_ri_5, ab_ri_6, ab_ri_7, ab_ri_8, ab_ri_12, ab_ri_30, ab_ri_60, ab_ri_100, ab_ri_101, ab_ri_127, ab_ri_m1, ab_ri_m2, ab_ri_m3, ab_ri_m4, ab_ri_m5, ab_ri_m11, ab_ri_m13, ab_ri_m14, ab_ri_10, ab_ai, hst.1, w8, w9, hw.1, Int.le_refl, Int.lt_irrefl, q] <;> omega
  · intro i h0 h9 ih
    have ei : (i + 1).toNat = i.toNat + 1 := by omega
    have ec : ((i.toNat : Nat) : Int) = i := Int.toNat_of_nonneg h0
    have hn : ¬ ab_START t + ab_wd t ≤ ab_START t + i := by omega
    have b0 : 0 ≤ ab_START t + i := by omega
    have b1 : ab_START t + i < ((19 : Nat) : Int) := by omega
    have hf := ab_first_r b0 b1
    rw [ei, ab_jn, ec, show ab_START t + (i + 1) = ab_START t + i + 1 by omega] at ih
    rw [s23_13]
    by_cases c1 : ab_FIRST (ab_START t + i) = k
    · by_cases c2 : ab_REST (ab_START t + i) = rest
      · rw [if_pos ⟨c1, c2⟩] at ih
        simp only [s23_15, s23_18, s23_19, s23_20, s23_21, s23_22, s23_25, s23_28, s23_30, s23_31, s23_32, s23_35, s23_38, s23_40, s23_41, s23_42, s23_45, s23_47, s23_48, s23_51, s23_54, s23_55, true_and, and_true, true_implies, Option.toList_some, Option.toList_none, List.nil_append, List.cons_append, List.map_nil, List.map_cons, List.sum_nil, List.sum_cons, Nat.zero_le, ab_nl_n, ab_nl_i, ab_nl_r, ab_nl_0, ab_cat_i, ab_cat_r, ab_cat_l, Nat.reduceAdd, Nat.reduceLeDiff, Nat.add_zero, Nat.zero_add, reduceIte, List.getElem?_cons_succ, List.getElem?_cons_zero, List.length_cons, List.length_nil, List.set_cons_zero, List.set_cons_succ, true_or, or_true, Classical.not_not, not_true_eq_false, not_false_eq_true, ab_01r, ab_01z, ab_01n, false_implies, ab_tt, Nat.reduceLT, Nat.reduceEqDiff, Int.reduceNeg, Int.reduceLT, Int.reduceLE, Int.add_zero, Int.zero_add, List.append_nil, Int.reduceEq, ab_sum1, ab_ri_0, ab_ri_1, ab_ri_2, ab_ri_3, ab_ri_4, ab_ri_5, ab_ri_6, ab_ri_7, ab_ri_8, ab_ri_12, ab_ri_30, ab_ri_60, ab_ri_100, ab_ri_101, ab_ri_127, ab_ri_m1, ab_ri_m2, ab_ri_m3, ab_ri_m4, ab_ri_m5, ab_ri_m11, ab_ri_m13, ab_ri_m14, ab_ri_10, ab_ai, hst.1, hst.2.2.1, hst.2.2.2.1, w8, w9, hw.1, hn, b0, b1, c1, c2, eq_true hk, eq_true hr, ih] <;> omega
      · rw [if_neg (fun z => c2 z.2)] at ih
        simp only [s23_15, s23_18, s23_19, s23_20, s23_21, s23_22, s23_25, s23_28, s23_30, s23_31, s23_32, s23_35, s23_38, s23_40, s23_41, s23_42, s23_45, s23_47, s23_48, s23_51, s23_54, s23_55, true_and, and_true, true_implies, Option.toList_some, Option.toList_none, List.nil_append, List.cons_append, List.map_nil, List.map_cons, List.sum_nil, List.sum_cons, Nat.zero_le, ab_nl_n, ab_nl_i, ab_nl_r, ab_nl_0, ab_cat_i, ab_cat_r, ab_cat_l, Nat.reduceAdd, Nat.reduceLeDiff, Nat.add_zero, Nat.zero_add, reduceIte, List.getElem?_cons_succ, List.getElem?_cons_zero, List.length_cons, List.length_nil, List.set_cons_zero, List.set_cons_succ, true_or, or_true, Classical.not_not, not_true_eq_false, not_false_eq_true, ab_01r, ab_01z, ab_01n, false_implies, ab_tt, Nat.reduceLT, Nat.reduceEqDiff, Int.reduceNeg, Int.reduceLT, Int.reduceLE, Int.add_zero, Int.zero_add, List.append_nil, Int.reduceEq, ab_sum1, ab_ri_0, ab_ri_1, ab_ri_2, ab_ri_3, ab_ri_4, ab_ri_5, ab_ri_6, ab_ri_7, ab_ri_8, ab_ri_12, ab_ri_30, ab_ri_60, ab_ri_100, ab_ri_101, ab_ri_127, ab_ri_m1, ab_ri_m2, ab_ri_m3, ab_ri_m4, ab_ri_m5, ab_ri_m11, ab_ri_m13, ab_ri_m14, ab_ri_10, ab_ai, hst.1, hst.2.2.1, hst.2.2.2.1, w8, w9, hw.1, hn, b0, b1, c1, c2, eq_true hk, eq_true hr, ih] <;> omega
    · rw [if_neg (fun z => c1 z.1)] at ih
      simp only [s23_15, s23_18, s23_19, s23_20, s23_21, s23_22, s23_25, s23_28, s23_30, s23_31, s23_32, s23_35, s23_38, s23_40, s23_41, s23_42, s23_45, s23_47, s23_48, s23_51, s23_54, s23_55, true_and, and_true, true_implies, Option.toList_some, Option.toList_none, List.nil_append, List.cons_append, List.map_nil, List.map_cons, List.sum_nil, List.sum_cons, Nat.zero_le, ab_nl_n, ab_nl_i, ab_nl_r, ab_nl_0, ab_cat_i, ab_cat_r, ab_cat_l, Nat.reduceAdd, Nat.reduceLeDiff, Nat.add_zero, Nat.zero_add, reduceIte, List.getElem?_cons_succ, List.getElem?_cons_zero, List.length_cons, List.length_nil, List.set_cons_zero, List.set_cons_succ, true_or, or_true, Classical.not_not, not_true_eq_false, not_false_eq_true, ab_01r, ab_01z, ab_01n, false_implies, ab_tt, Nat.reduceLT, Nat.reduceEqDiff, Int.reduceNeg, Int.reduceLT, Int.reduceLE, Int.add_zero, Int.zero_add, List.append_nil, Int.reduceEq, ab_sum1, ab_ri_0, ab_ri_1, ab_ri_2, ab_ri_3, ab_ri_4, ab_ri_5, ab_ri_6, ab_ri_7, ab_ri_8, ab_ri_12, ab_ri_30, ab_ri_60, ab_ri_100, ab_ri_101, ab_ri_127, ab_ri_m1, ab_ri_m2, ab_ri_m3, ab_ri_m4, ab_ri_m5, ab_ri_m11, ab_ri_m13, ab_ri_m14, ab_ri_10, ab_ai, hst.1, hst.2.2.1, hst.2.2.2.1, w8, w9, hw.1, hn, b0, b1, c1, eq_true hk, eq_true hr, ih] <;> omega
end LD3
