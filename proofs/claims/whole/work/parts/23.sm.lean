/-! ===== inverse, commonDivisor, isRowNumber ===== -/
def ab_iv (x y : Int) : Nat → Int
  | 0 => 0
  | k + 1 => if x * y % 101 = 1 then y else ab_iv x (y + 1) k
def ab_inv (x : Int) : Int := ab_iv x 1 100
theorem ab_inv_r {x : Int} (h0 : 0 ≤ x) (h1 : x < 101) : 0 ≤ ab_inv x ∧ ab_inv x ≤ 100 := ab_tb_all (P := fun x => 0 ≤ ab_inv x ∧ ab_inv x ≤ 100) (m := 101) (by decide +kernel) h0 h1
/-- from d downwards the first that divides both -/
def ab_cd (a b : Int) : Nat → Int
  | 0 => 1
  | d + 1 => if d = 0 then 1 else if a.tmod (d + 1) = 0 ∧ b.tmod (d + 1) = 0 then d + 1 else ab_cd a b d
section SM
variable {h : ab_H} {n : Nat} {Q : ab_Q}
theorem sp_inverse {x : Int} (hx : 0 ≤ x ∧ x ≤ 100) (q : Q (some (vi (ab_inv x))) h n) : ab_G 111 0 [some (vi x), none] [] h n (0, 0) Q := by
  have h101 : ab_inR 101 := by omega
  simp only [s111_0, s111_1, true_and, and_true, true_implies, Option.toList_some, Option.toList_none, List.nil_append, List.cons_append, List.map_nil, List.map_cons, List.sum_nil, List.sum_cons, Nat.zero_le, ab_nl_n, ab_nl_i, ab_nl_r, ab_nl_0, ab_cat_i, ab_cat_r, ab_cat_l, Nat.reduceAdd, Nat.reduceLeDiff, Nat.add_zero, Nat.zero_add, reduceIte, List.getElem?_cons_succ, List.getElem?_cons_zero, List.length_cons, List.length_nil, List.set_cons_zero, List.set_cons_succ, true_or, or_true, Classical.not_not, not_true_eq_false, not_false_eq_true, ab_01r, ab_01z, ab_01n, false_implies, ab_tt, Nat.reduceLT, Nat.reduceEqDiff, Int.reduceNeg, Int.reduceLT, Int.reduceLE, Int.add_zero, Int.zero_add, List.append_nil, Int.reduceEq, ab_sum1, ab_ri_0, ab_ri_1, ab_ri_2, ab_ri_3, ab_ri_4, ab_ri_5, ab_ri_6, ab_ri_7, ab_ri_8, ab_ri_12, ab_ri_30, ab_ri_60, ab_ri_100, ab_ri_101, ab_ri_127, ab_ri_m1, ab_ri_m2, ab_ri_m3, ab_ri_m4, ab_ri_m5, ab_ri_m11, ab_ri_m13, ab_ri_m14, ab_ri_10]
  have key := ab_dn (P := fun y => Q (some (vi (ab_iv x y (101 - y).toNat))) h n → ab_G 111 2 [some (vi x), some (vi y)] [] h n (0, 0) Q) (a := 1) (e := 101) (by omega) ?_ ?_
  · exact key q
  · intro q
    simp only [Int.sub_self, show (0 : Int).toNat = 0 from rfl, ab_iv] at q
    rw [s111_2]
    simp only [s111_3, s111_5, s111_8, s111_9, s111_10, s111_11, s111_13, s111_14, s111_15, s111_18, s111_19, s111_20, s111_23, s111_26, s111_27, true_and, and_true, true_implies, Option.toList_some, Option.toList_none, List.nil_append, List.cons_append, List.map_nil, List.map_cons, List.sum_nil, List.sum_cons, Nat.zero_le, ab_nl_n, ab_nl_i, ab_nl_r, ab_nl_0, ab_cat_i, ab_cat_r, ab_cat_l, Nat.reduceAdd, Nat.reduceLeDiff, Nat.add_zero, Nat.zero_add, reduceIte, List.getElem?_cons_succ, List.getElem?_cons_zero, List.length_cons, List.length_nil, List.set_cons_zero, List.set_cons_succ, true_or, or_true, Classical.not_not, not_true_eq_false, not_false_eq_true, ab_01r, ab_01z, ab_01n, false_implies, ab_tt, Nat.reduceLT, Nat.reduceEqDiff, Int.reduceNeg, Int.reduceLT, Int.reduceLE, Int.add_zero, Int.zero_add, List.append_nil, Int.reduceEq, ab_sum1, ab_ri_0, ab_ri_1, ab_ri_2, ab_ri_3, ab_ri_4, ab_ri_5, ab_ri_6, ab_ri_7, ab_ri_8, ab_ri_12, ab_ri_30, ab_ri_60, ab_ri_100, ab_ri_101, ab_ri_127, ab_ri_m1, ab_ri_m2, ab_ri_m3, ab_ri_m4, ab_ri_m5, ab_ri_m11, ab_ri_m13, ab_ri_m14, ab_ri_10, q, Int.le_refl] <;> omega
  · intro y h0 h9 ih q
    have ei : (101 - y).toNat = (101 - (y + 1)).toNat + 1 := by omega
    rw [ei, ab_iv] at q
    have hn : ¬ 101 ≤ y := by omega
    have hm0 : 0 ≤ x * y := Int.mul_nonneg hx.1 (by omega)
    have hm1 : x * y ≤ 100 * 100 := Int.mul_le_mul hx.2 (by omega) (by omega) (by omega)
    rw [s111_2]
    by_cases c : x * y % 101 = 1
    · rw [if_pos c] at q
      simp only [s111_3, s111_5, s111_8, s111_9, s111_10, s111_11, s111_13, s111_14, s111_15, s111_18, s111_19, s111_20, s111_23, s111_26, s111_27, true_and, and_true, true_implies, Option.toList_some, Option.toList_none, List.nil_append, List.cons_append, List.map_nil, List.map_cons, List.sum_nil, List.sum_cons, Nat.zero_le, ab_nl_n, ab_nl_i, ab_nl_r, ab_nl_0, ab_cat_i, ab_cat_r, ab_cat_l, Nat.reduceAdd, Nat.reduceLeDiff, Nat.add_zero, Nat.zero_add, reduceIte, List.getElem?_cons_succ, List.getElem?_cons_zero, List.length_cons, List.length_nil, List.set_cons_zero, List.set_cons_succ, true_or, or_true, Classical.not_not, not_true_eq_false, not_false_eq_true, ab_01r, ab_01z, ab_01n, false_implies, ab_tt, Nat.reduceLT, Nat.reduceEqDiff, Int.reduceNeg, Int.reduceLT, Int.reduceLE, Int.add_zero, Int.zero_add, List.append_nil, Int.reduceEq, ab_sum1, ab_ri_0, ab_ri_1, ab_ri_2, ab_ri_3, ab_ri_4, ab_ri_5, ab_ri_6, ab_ri_7, ab_ri_8, ab_ri_12, ab_ri_30, ab_ri_60, ab_ri_100, ab_ri_101, ab_ri_127, ab_ri_m1, ab_ri_m2, ab_ri_m3, ab_ri_m4, ab_ri_m5, ab_ri_m11, ab_ri_m13, ab_ri_m14, ab_ri_10, hn, ab_md hm0, c, q] <;> omega
    · rw [if_neg c] at q
      have ih := ih q
      simp only [s111_3, s111_5, s111_8, s111_9, s111_10, s111_11, s111_13, s111_14, s111_15, s111_18, s111_19, s111_20, s111_23, s111_26, s111_27, true_and, and_true, true_implies, Option.toList_some, Option.toList_none, List.nil_append, List.cons_append, List.map_nil, List.map_cons, List.sum_nil, List.sum_cons, Nat.zero_le, ab_nl_n, ab_nl_i, ab_nl_r, ab_nl_0, ab_cat_i, ab_cat_r, ab_cat_l, Nat.reduceAdd, Nat.reduceLeDiff, Nat.add_zero, Nat.zero_add, reduceIte, List.getElem?_cons_succ, List.getElem?_cons_zero, List.length_cons, List.length_nil, List.set_cons_zero, List.set_cons_succ, true_or, or_true, Classical.not_not, not_true_eq_false, not_false_eq_true, ab_01r, ab_01z, ab_01n, false_implies, ab_tt, Nat.reduceLT, Nat.reduceEqDiff, Int.reduceNeg, Int.reduceLT, Int.reduceLE, Int.add_zero, Int.zero_add, List.append_nil, Int.reduceEq, ab_sum1, ab_ri_0, ab_ri_1, ab_ri_2, ab_ri_3, ab_ri_4, ab_ri_5, ab_ri_6, ab_ri_7, ab_ri_8, ab_ri_12, ab_ri_30, ab_ri_60, ab_ri_100, ab_ri_101, ab_ri_127, ab_ri_m1, ab_ri_m2, ab_ri_m3, ab_ri_m4, ab_ri_m5, ab_ri_m11, ab_ri_m13, ab_ri_m14, ab_ri_10, hn, ab_md hm0, c, ih] <;> omega
theorem sp_commonDivisor {a b : Int} (ha : 0 ≤ a ∧ a ≤ 1000) (hb : 1 ≤ b ∧ b ≤ 1000) (q : Q (some (vi (ab_cd a b b.toNat))) h n) : ab_G 112 0 [some (vi a), some (vi b), none] [] h n (0, 0) Q := by
  simp only [s112_0, s112_1, true_and, and_true, true_implies, Option.toList_some, Option.toList_none, List.nil_append, List.cons_append, List.map_nil, List.map_cons, List.sum_nil, List.sum_cons, Nat.zero_le, ab_nl_n, ab_nl_i, ab_nl_r, ab_nl_0, ab_cat_i, ab_cat_r, ab_cat_l, Nat.reduceAdd, Nat.reduceLeDiff, Nat.add_zero, Nat.zero_add, reduceIte, List.getElem?_cons_succ, List.getElem?_cons_zero, List.length_cons, List.length_nil, List.set_cons_zero, List.set_cons_succ, true_or, or_true, Classical.not_not, not_true_eq_false, not_false_eq_true, ab_01r, ab_01z, ab_01n, false_implies, ab_tt, Nat.reduceLT, Nat.reduceEqDiff, Int.reduceNeg, Int.reduceLT, Int.reduceLE, Int.add_zero, Int.zero_add, List.append_nil, Int.reduceEq, ab_sum1, ab_ri_0, ab_ri_1, ab_ri_2, ab_ri_3, ab_ri_4, ab_ri_5, ab_ri_6, ab_ri_7, ab_ri_8, ab_ri_12, ab_ri_30, ab_ri_60, ab_ri_100, ab_ri_101, ab_ri_127, ab_ri_m1, ab_ri_m2, ab_ri_m3, ab_ri_m4, ab_ri_m5, ab_ri_m11, ab_ri_m13, ab_ri_m14, ab_ri_10]
  have key : ∀ (d : Nat), (d : Int) ≤ b → 1 ≤ d → Q (some (vi (ab_cd a b d))) h n → ab_G 112 2 [some (vi a), some (vi b), some (vi d)] [] h n (0, 0) Q := by
    intro d
    induction d with
    | zero => intro _ h; omega
    | succ d ih =>
      intro h1 h2 q
      rw [ab_cd] at q
      have ec : ((d + 1 : Nat) : Int) = (d : Int) + 1 := by omega
      rw [ec, s112_2]
      have hd : ab_inR ((d : Int) + 1) = True := eq_true (by omega)
      by_cases c0 : d = 0
      · rw [if_pos c0] at q
        have cn : (d : Int) + 1 ≤ 1 := by omega
        simp only [s112_3, s112_4, s112_7, s112_8, s112_9, s112_10, s112_13, s112_14, s112_15, s112_16, s112_19, s112_20, s112_21, s112_24, s112_27, s112_28, true_and, and_true, true_implies, Option.toList_some, Option.toList_none, List.nil_append, List.cons_append, List.map_nil, List.map_cons, List.sum_nil, List.sum_cons, Nat.zero_le, ab_nl_n, ab_nl_i, ab_nl_r, ab_nl_0, ab_cat_i, ab_cat_r, ab_cat_l, Nat.reduceAdd, Nat.reduceLeDiff, Nat.add_zero, Nat.zero_add, reduceIte, List.getElem?_cons_succ, List.getElem?_cons_zero, List.length_cons, List.length_nil, List.set_cons_zero, List.set_cons_succ, true_or, or_true, Classical.not_not, not_true_eq_false, not_false_eq_true, ab_01r, ab_01z, ab_01n, false_implies, ab_tt, Nat.reduceLT, Nat.reduceEqDiff, Int.reduceNeg, Int.reduceLT, Int.reduceLE, Int.add_zero, Int.zero_add, List.append_nil, Int.reduceEq, ab_sum1, ab_ri_0, ab_ri_1, ab_ri_2, ab_ri_3, ab_ri_4, ab_ri_5, ab_ri_6, ab_ri_7, ab_ri_8, ab_ri_12, ab_ri_30, ab_ri_60, ab_ri_100, ab_ri_101, ab_ri_127, ab_ri_m1, ab_ri_m2, ab_ri_m3, ab_ri_m4, ab_ri_m5, ab_ri_m11, ab_ri_m13, ab_ri_m14, ab_ri_10, cn, hd, q] <;> omega
      · rw [if_neg c0] at q
        have cn : ¬ (d : Int) + 1 ≤ 1 := by omega
        have hz : (d : Int) + 1 ≠ 0 := by omega
        have hma : ab_inR (a.tmod ((d : Int) + 1)) := by
          rw [Int.tmod_eq_emod_of_nonneg ha.1]
          have := Int.emod_nonneg a hz
          have := Int.emod_lt_of_pos a (show 0 < (d : Int) + 1 by omega)
          omega
        have hmb : ab_inR (b.tmod ((d : Int) + 1)) := by
          rw [Int.tmod_eq_emod_of_nonneg (by omega)]
          have := Int.emod_nonneg b hz
          have := Int.emod_lt_of_pos b (show 0 < (d : Int) + 1 by omega)
          omega
        have e1 : (d : Int) + 1 + -1 = d := by omega
        have hd0 : ab_inR (d : Int) = True := eq_true (by omega)
        by_cases c1 : a.tmod ((d : Int) + 1) = 0
        · by_cases c2 : b.tmod ((d : Int) + 1) = 0
          · rw [if_pos ⟨c1, c2⟩] at q
            simp only [s112_3, s112_4, s112_7, s112_8, s112_9, s112_10, s112_13, s112_14, s112_15, s112_16, s112_19, s112_20, s112_21, s112_24, s112_27, s112_28, true_and, and_true, true_implies, Option.toList_some, Option.toList_none, List.nil_append, List.cons_append, List.map_nil, List.map_cons, List.sum_nil, List.sum_cons, Nat.zero_le, ab_nl_n, ab_nl_i, ab_nl_r, ab_nl_0, ab_cat_i, ab_cat_r, ab_cat_l, Nat.reduceAdd, Nat.reduceLeDiff, Nat.add_zero, Nat.zero_add, reduceIte, List.getElem?_cons_succ, List.getElem?_cons_zero, List.length_cons, List.length_nil, List.set_cons_zero, List.set_cons_succ, true_or, or_true, Classical.not_not, not_true_eq_false, not_false_eq_true, ab_01r, ab_01z, ab_01n, false_implies, ab_tt, Nat.reduceLT, Nat.reduceEqDiff, Int.reduceNeg, Int.reduceLT, Int.reduceLE, Int.add_zero, Int.zero_add, List.append_nil, Int.reduceEq, ab_sum1, ab_ri_0, ab_ri_1, ab_ri_2, ab_ri_3, ab_ri_4, ab_ri_5, ab_ri_6, ab_ri_7, ab_ri_8, ab_ri_12, ab_ri_30, ab_ri_60, ab_ri_100, ab_ri_101, ab_ri_127, ab_ri_m1, ab_ri_m2, ab_ri_m3, ab_ri_m4, ab_ri_m5, ab_ri_m11, ab_ri_m13, ab_ri_m14, ab_ri_10, cn, hd, hz, c1, c2, q] <;> omega
          · rw [if_neg (fun z => c2 z.2)] at q
            have ih := ih (by omega) (by omega) q
            simp only [s112_3, s112_4, s112_7, s112_8, s112_9, s112_10, s112_13, s112_14, s112_15, s112_16, s112_19, s112_20, s112_21, s112_24, s112_27, s112_28, true_and, and_true, true_implies, Option.toList_some, Option.toList_none, List.nil_append, List.cons_append, List.map_nil, List.map_cons, List.sum_nil, List.sum_cons, Nat.zero_le, ab_nl_n, ab_nl_i, ab_nl_r, ab_nl_0, ab_cat_i, ab_cat_r, ab_cat_l, Nat.reduceAdd, Nat.reduceLeDiff, Nat.add_zero, Nat.zero_add, reduceIte, List.getElem?_cons_succ, List.getElem?_cons_zero, List.length_cons, List.length_nil, List.set_cons_zero, List.set_cons_succ, true_or, or_true, Classical.not_not, not_true_eq_false, not_false_eq_true, ab_01r, ab_01z, ab_01n, false_implies, ab_tt, Nat.reduceLT, Nat.reduceEqDiff, Int.reduceNeg, Int.reduceLT, Int.reduceLE, Int.add_zero, Int.zero_add, List.append_nil, Int.reduceEq, ab_sum1, ab_ri_0, ab_ri_1, ab_ri_2, ab_ri_3, ab_ri_4, ab_ri_5, ab_ri_6, ab_ri_7, ab_ri_8, ab_ri_12, ab_ri_30, ab_ri_60, ab_ri_100, ab_ri_101, ab_ri_127, ab_ri_m1, ab_ri_m2, ab_ri_m3, ab_ri_m4, ab_ri_m5, ab_ri_m11, ab_ri_m13, ab_ri_m14, ab_ri_10, cn, hd, hz, c1, c2, eq_true hmb, e1, hd0, ih] <;> omega
        · rw [if_neg (fun z => c1 z.1)] at q
          have ih := ih (by omega) (by omega) q
          simp only [s112_3, s112_4, s112_7, s112_8, s112_9, s112_10, s112_13, s112_14, s112_15, s112_16, s112_19, s112_20, s112_21, s112_24, s112_27, s112_28, true_and, and_true, true_implies, Option.toList_some, Option.toList_none, List.nil_append, List.cons_append, List.map_nil, List.map_cons, List.sum_nil, List.sum_cons, Nat.zero_le, ab_nl_n, ab_nl_i, ab_nl_r, ab_nl_0, ab_cat_i, ab_cat_r, ab_cat_l, Nat.reduceAdd, Nat.reduceLeDiff, Nat.add_zero, Nat.zero_add, reduceIte, List.getElem?_cons_succ, List.getElem?_cons_zero, List.length_cons, List.length_nil, List.set_cons_zero, List.set_cons_succ, true_or, or_true, Classical.not_not, not_true_eq_false, not_false_eq_true, ab_01r, ab_01z, ab_01n, false_implies, ab_tt, Nat.reduceLT, Nat.reduceEqDiff, Int.reduceNeg, Int.reduceLT, Int.reduceLE, Int.add_zero, Int.zero_add, List.append_nil, Int.reduceEq, ab_sum1, ab_ri_0, ab_ri_1, ab_ri_2, ab_ri_3, ab_ri_4, ab_ri_5, ab_ri_6, ab_ri_7, ab_ri_8, ab_ri_12, ab_ri_30, ab_ri_60, ab_ri_100, ab_ri_101, ab_ri_127, ab_ri_m1, ab_ri_m2, ab_ri_m3, ab_ri_m4, ab_ri_m5, ab_ri_m11, ab_ri_m13, ab_ri_m14, ab_ri_10, cn, hd, hz, c1, eq_true hma, e1, hd0, ih] <;> omega
  have := key b.toNat (by omega) (by omega) q
  rw [Int.toNat_of_nonneg (by omega)] at this
  exact this
end SM
