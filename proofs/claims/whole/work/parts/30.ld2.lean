/-! ===== Ladder: exchanged ===== -/
def ab_exs (A : Int → Int) (rest to s : Int) : Nat → Int
  | 0 => 0
  | k + 1 => ab_exs A rest to s k + A (rest * 19 + (s + k)) * A ((s + k) * 19 + to)
def ab_exd (A : Int → Int) (rest way to : Int) : Int := if 0 ≤ way then ab_exs A rest to (ab_START way) (ab_wd way).toNat else 0
theorem ab_exs_r {A : Int → Int} {rest to s : Int} (hA : ∀ j, 0 ≤ j → j < 361 → 0 ≤ A j ∧ A j ≤ 100) (hr : 0 ≤ rest ∧ rest < 19) (ht : 0 ≤ to ∧ to < 19) (hs : 0 ≤ s) : ∀ k : Nat, s + k ≤ 19 → 0 ≤ ab_exs A rest to s k ∧ ab_exs A rest to s k ≤ 10000 * k
  | 0, _ => by unfold ab_exs; omega
  | k + 1, h => by
    have ih := ab_exs_r hA hr ht hs k (by omega)
    have m1 := hA (rest * 19 + (s + k)) (by omega) (by omega)
    have m2 := hA ((s + k) * 19 + to) (by omega) (by omega)
    have m3 := Int.mul_nonneg m1.1 m2.1
    have m4 : A (rest * 19 + (s + k)) * A ((s + k) * 19 + to) ≤ 100 * 100 := Int.mul_le_mul m1.2 m2.2 m2.1 (by omega)
    unfold ab_exs
    omega
section LD2
variable {h : ab_H} {n : Nat} {Q : ab_Q} {a ki bu ac fo mo gr : Nat} {top : Int} {A : Int → Int}
theorem sp_exchanged {rest way to : Int} (h6 : 6 ≤ a) (hb6 : 6 ≤ ac) (h1 : h a = some (ab_ld ki bu ac fo mo gr top)) (h2 : h ac = some (ab_ia 361 A)) (hst : ab_stat h) (hA : ∀ j, 0 ≤ j → j < 361 → 0 ≤ A j ∧ A j ≤ 100) (hr : 0 ≤ rest ∧ rest < 19) (ht : 0 ≤ to ∧ to < 19) (hw : -5 ≤ way ∧ way ≤ 5) (q : Q (some (vi (ab_exd A rest way to))) h n) : ab_G 24 0 [some (vr a), some (vi rest), some (vi way), some (vi to), none, none] [] h n (0, 0) Q := by
  have hA' : ∀ j, 0 ≤ j → j < 361 → ab_inR (A j) := fun j k0 k1 => by have := hA j k0 k1; omega
  unfold ab_exd at q
  by_cases c : 0 ≤ way
  · rw [if_pos c] at q
    have hw1 := ab_wd_eq c (by omega)
    have cn : ¬ way < 0 := by omega
    have w7 : way < ((7 : Nat) : Int) := by omega
    have w8 : way + 1 < ((7 : Nat) : Int) := by omega
    have w9 : 0 ≤ way + 1 := by omega
    simp only [s24_0, s24_1, s24_3, s24_4, s24_7, s24_10, s24_11, s24_12, true_and, and_true, true_implies, Option.toList_some, Option.toList_none, List.nil_append, List.cons_append, List.map_nil, List.map_cons, List.sum_nil, List.sum_cons, Nat.zero_le, ab_nl_n, ab_nl_i, ab_nl_r, ab_nl_0, ab_cat_i, ab_cat_r, ab_cat_l, Nat.reduceAdd, Nat.reduceLeDiff, Nat.add_zero, Nat.zero_add, reduceIte, List.getElem?_cons_succ, List.getElem?_cons_zero, List.length_cons, List.length_nil, List.set_cons_zero, List.set_cons_succ, true_or, or_true, Classical.not_not, not_true_eq_false, not_false_eq_true, ab_01r, ab_01z, ab_01n, false_implies, ab_tt, Nat.reduceLT, Nat.reduceEqDiff, Int.reduceNeg, Int.reduceLT, Int.reduceLE, Int.add_zero, Int.zero_add, List.append_nil, Int.reduceEq, ab_sum1, ab_ri_0, ab_ri_1, ab_ri_2, ab_ri_3, ab_ri_4, ab_ri_5, ab_ri_6, ab_ri_7, ab_ri_8, ab_ri_12, ab_ri_30, ab_ri_60, ab_ri_100, ab_ri_101, ab_ri_127, ab_ri_m1, ab_ri_m2, ab_ri_m3, ab_ri_m4, ab_ri_m5, ab_ri_m11, ab_ri_m13, ab_ri_m14, ab_ri_10, ab_ai, hst.1, c, cn, w7]
    refine ⟨by omega, ?_⟩
    refine ab_lp 0 (ab_wd way) (fun i => [some (vr a), some (vi rest), some (vi way), some (vi to), some (vi (ab_exs A rest to (ab_START way) i.toNat)), some (vi (ab_START way + i))]) (fun _ => h) (by omega) (by rw [Int.add_zero]; rfl) rfl ?_ ?_
    · have hb := ab_exs_r hA hr ht hw1.2.2.2.1 (ab_wd way).toNat (by omega)
      rw [s24_14]
      simp only [s24_16, s24_19, s24_20, s24_21, s24_22, s24_23, s24_26, s24_28, s24_29, s24_30, s24_32, s24_35, s24_36, s24_38, s24_39, s24_42, s24_43, s24_44, s24_46, s24_49, s24_52, s24_54, true_and, and_true, true_implies, Option.toList_some, Option.toList_none, List.nil_append, List.cons_append, List.map_nil, List.map_cons, List.sum_nil, List.sum_cons, Nat.zero_le, ab_nl_n, ab_nl_i, ab_nl_r, ab_nl_0, ab_cat_i, ab_cat_r, ab_cat_l, Nat.reduceAdd, Nat.reduceLeDiff, Nat.add_zero, Nat.zero_add, reduceIte, List.getElem?_cons_succ, List.getElem?_cons_zero, List.length_cons, List.length_nil, List.set_cons_zero, List.set_cons_succ, true_or, or_true, Classical.not_not, not_true_eq_false, not_false_eq_true, ab_01r, ab_01z, ab_01n, false_implies, ab_tt, Nat.reduceLT, Nat.reduceEqDiff, Int.reduceNeg, Int.reduceLT, Int.reduceLE, Int.add_zero, Int.zero_add, List.append_nil, Int.reduceEq, ab_sum1, ab_ri_0, ab_ri_1, ab_ri_2, ab_ri_3, ab_ri_4, ab_ri_5, ab_ri_6, ab_ri_7, ab_ri_8, ab_ri_12, ab_ri_30, ab_ri_60, ab_ri_100, ab_ri_101, ab_ri_127, ab_ri_m1, ab_ri_m2, ab_ri_m3, ab_ri_m4, ab_ri_m5, ab_ri_m11, ab_ri_m13, ab_ri_m14, ab_ri_10, ab_ai, hst.1, w8, w9, hw1.1, Int.le_refl, Int.lt_irrefl, q] <;> omega
    · intro i h0 h9 ih
      have ei : (i + 1).toNat = i.toNat + 1 := by omega
      have ec : ((i.toNat : Nat) : Int) = i := Int.toNat_of_nonneg h0
      have hn : ¬ ab_START way + ab_wd way ≤ ab_START way + i := by omega
      rw [ei, ab_exs, ec, show ab_START way + (i + 1) = ab_START way + i + 1 by omega] at ih
      rw [s24_14]
      simp only [s24_16, s24_19, s24_20, s24_21, s24_22, s24_23, s24_26, s24_28, s24_29, s24_30, s24_32, s24_35, s24_36, s24_38, s24_39, s24_42, s24_43, s24_44, s24_46, s24_49, s24_52, s24_54, true_and, and_true, true_implies, Option.toList_some, Option.toList_none, List.nil_append, List.cons_append, List.map_nil, List.map_cons, List.sum_nil, List.sum_cons, Nat.zero_le, ab_nl_n, ab_nl_i, ab_nl_r, ab_nl_0, ab_cat_i, ab_cat_r, ab_cat_l, Nat.reduceAdd, Nat.reduceLeDiff, Nat.add_zero, Nat.zero_add, reduceIte, List.getElem?_cons_succ, List.getElem?_cons_zero, List.length_cons, List.length_nil, List.set_cons_zero, List.set_cons_succ, true_or, or_true, Classical.not_not, not_true_eq_false, not_false_eq_true, ab_01r, ab_01z, ab_01n, false_implies, ab_tt, Nat.reduceLT, Nat.reduceEqDiff, Int.reduceNeg, Int.reduceLT, Int.reduceLE, Int.add_zero, Int.zero_add, List.append_nil, Int.reduceEq, ab_sum1, ab_ri_0, ab_ri_1, ab_ri_2, ab_ri_3, ab_ri_4, ab_ri_5, ab_ri_6, ab_ri_7, ab_ri_8, ab_ri_12, ab_ri_30, ab_ri_60, ab_ri_100, ab_ri_101, ab_ri_127, ab_ri_m1, ab_ri_m2, ab_ri_m3, ab_ri_m4, ab_ri_m5, ab_ri_m11, ab_ri_m13, ab_ri_m14, ab_ri_10, ab_ai, ab_vc, ab_sv_3_96, ab_sv_3_96, h1, h6, hst.1, w8, w9, hw1.1, hn, sp_made h6 hb6 h1 h2 hr (show 0 ≤ ab_START way + i ∧ ab_START way + i < 19 by omega) hA', sp_made h6 hb6 h1 h2 (show 0 ≤ ab_START way + i ∧ ab_START way + i < 19 by omega) ht hA', ih] <;> omega
  · rw [if_neg c] at q
    have cn : way < 0 := by omega
    simp only [s24_0, s24_1, s24_3, s24_4, s24_7, s24_10, s24_11, s24_12, s24_14, s24_16, s24_19, s24_20, s24_21, s24_22, s24_23, s24_26, s24_28, s24_29, s24_30, s24_32, s24_35, s24_36, s24_38, s24_39, s24_42, s24_43, s24_44, s24_46, s24_49, s24_52, s24_54, true_and, and_true, true_implies, Option.toList_some, Option.toList_none, List.nil_append, List.cons_append, List.map_nil, List.map_cons, List.sum_nil, List.sum_cons, Nat.zero_le, ab_nl_n, ab_nl_i, ab_nl_r, ab_nl_0, ab_cat_i, ab_cat_r, ab_cat_l, Nat.reduceAdd, Nat.reduceLeDiff, Nat.add_zero, Nat.zero_add, reduceIte, List.getElem?_cons_succ, List.getElem?_cons_zero, List.length_cons, List.length_nil, List.set_cons_zero, List.set_cons_succ, true_or, or_true, Classical.not_not, not_true_eq_false, not_false_eq_true, ab_01r, ab_01z, ab_01n, false_implies, ab_tt, Nat.reduceLT, Nat.reduceEqDiff, Int.reduceNeg, Int.reduceLT, Int.reduceLE, Int.add_zero, Int.zero_add, List.append_nil, Int.reduceEq, ab_sum1, ab_ri_0, ab_ri_1, ab_ri_2, ab_ri_3, ab_ri_4, ab_ri_5, ab_ri_6, ab_ri_7, ab_ri_8, ab_ri_12, ab_ri_30, ab_ri_60, ab_ri_100, ab_ri_101, ab_ri_127, ab_ri_m1, ab_ri_m2, ab_ri_m3, ab_ri_m4, ab_ri_m5, ab_ri_m11, ab_ri_m13, ab_ri_m14, ab_ri_10, c, cn, q] <;> omega
end LD2
