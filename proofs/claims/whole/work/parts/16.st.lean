/-! ===== the static helpers of the class ===== -/
def ab_START : Int → Int := ab_tb [0, 1, 2, 4, 7, 12, 19]
def ab_LENGTH : Int → Int := ab_tb [0, 1, 1, 2, 1, 2, 3, 1, 2, 2, 3, 4, 1, 2, 2, 3, 3, 4, 5]
def ab_REST : Int → Int := ab_tb [0, 0, 0, 1, 0, 1, 3, 0, 1, 2, 3, 6, 0, 1, 2, 3, 5, 6, 11]
def ab_FIRST : Int → Int := ab_tb [0, 1, 2, 1, 3, 2, 1, 4, 3, 2, 2, 1, 5, 4, 3, 3, 2, 2, 1]
def ab_DEGREE : Int → Int := ab_tb [0, 1, 3, 6, 12, 20]
/-- how many basis vectors a level has -/
def ab_wd : Int → Int := ab_tb [1, 1, 2, 3, 5, 7]
/-- what is left of a partition behind its first numbers -/
def ab_rests (b : Int) : Nat → Int
  | 0 => b
  | m + 1 => ab_REST (ab_rests b m)
def ab_stat (h : ab_H) : Prop := h 1 = some (ab_ia 7 ab_START) ∧ h 2 = some (ab_ia 19 ab_LENGTH) ∧ h 3 = some (ab_ia 19 ab_REST) ∧ h 4 = some (ab_ia 19 ab_FIRST) ∧ h 5 = some (ab_ia 6 ab_DEGREE)
theorem ab_tb_all {P : Int → Prop} {m : Nat} (h : ∀ k : Fin m, P (k.val : Int)) {i : Int} (h0 : 0 ≤ i) (h1 : i < m) : P i := by
  have e : ((i.toNat : Nat) : Int) = i := Int.toNat_of_nonneg h0
  rw [← e]
  exact h ⟨i.toNat, by omega⟩
theorem ab_wd_eq {lv : Int} (h0 : 0 ≤ lv) (h1 : lv < 6) : ab_START (lv + 1) = ab_START lv + ab_wd lv ∧ 1 ≤ ab_wd lv ∧ ab_wd lv ≤ 7 ∧ 0 ≤ ab_START lv ∧ ab_START lv + ab_wd lv ≤ 19 :=
  ab_tb_all (P := fun lv => ab_START (lv + 1) = ab_START lv + ab_wd lv ∧ 1 ≤ ab_wd lv ∧ ab_wd lv ≤ 7 ∧ 0 ≤ ab_START lv ∧ ab_START lv + ab_wd lv ≤ 19) (m := 6) (by decide) h0 h1
section ST
variable {h : ab_H} {n : Nat} {Q : ab_Q}
theorem sp_floorMod {x : Int} (hx : ab_inR x) : ab_G 193 0 [some (vi x), some (vi 101), none] [] h n (0, 0) Q ↔ Q (some (vi (x % 101))) h n := by
  simp only [s193_0, s193_1, s193_2, s193_3, s193_4, s193_5, s193_6, s193_7, s193_10, s193_11, s193_14, s193_15, s193_16, s193_17, s193_18, s193_19, true_and, and_true, true_implies, Option.toList_some, Option.toList_none, List.nil_append, List.cons_append, List.map_nil, List.map_cons, List.sum_nil, List.sum_cons, Nat.zero_le, ab_nl_n, ab_nl_i, ab_nl_r, ab_nl_0, ab_cat_i, ab_cat_r, ab_cat_l, Nat.reduceAdd, Nat.reduceLeDiff, Nat.add_zero, Nat.zero_add, reduceIte, List.getElem?_cons_succ, List.getElem?_cons_zero, List.length_cons, List.length_nil, List.set_cons_zero, List.set_cons_succ, true_or, or_true, Classical.not_not, not_true_eq_false, not_false_eq_true, ab_01r, ab_01z, ab_01n, false_implies, ab_tt, Nat.reduceLT, Nat.reduceEqDiff, Int.reduceNeg, Int.reduceLT, Int.reduceLE, Int.add_zero, Int.zero_add, List.append_nil, Int.reduceEq, ab_sum1, ab_ri_0, ab_ri_1, ab_ri_2, ab_ri_3, ab_ri_4, ab_ri_5, ab_ri_6, ab_ri_7, ab_ri_8, ab_ri_12, ab_ri_30, ab_ri_60, ab_ri_100, ab_ri_101, ab_ri_127, ab_ri_m1, ab_ri_m2, ab_ri_m3, ab_ri_m4, ab_ri_m5, ab_ri_m11, ab_ri_m13, ab_ri_m14, ab_ri_10]
  have e : x.tmod 101 = x % 101 - if 0 ≤ x ∨ (101 : Int) ∣ x then 0 else 101 := by
    rw [Int.tmod_eq_emod (a := x) (b := 101)]
    split <;> rfl
  have h101 : ab_inR 101 := by omega
  have hr : ab_inR (x.tmod 101) := by rw [e]; split <;> omega
  constructor
  · rintro ⟨-, -, q⟩
    obtain ⟨q0, q1, q2⟩ := q x hx Iff.rfl
    by_cases c : 0 ≤ x
    · have := q1 c
      rw [e, if_pos (Or.inl c), Int.sub_zero] at this
      exact this
    · obtain ⟨-, q3, q4⟩ := q2 c
      by_cases d : x.tmod 101 = 0
      · have := q3 d
        rw [d] at this
        rw [show x % 101 = 0 by rw [e] at d; split at d <;> omega]
        exact this
      · have := q4 d
        rw [show x % 101 = x.tmod 101 + 101 by rw [e] at d ⊢; split at d <;> (rename_i z; simp [z] at d ⊢; try omega)]
        exact this
  · intro q
    refine ⟨hx, hx, fun z hz hs => ⟨hz, fun c => ?_, fun c => ⟨hr, fun d => ?_, fun d => ?_⟩⟩⟩
    · rw [e, if_pos (Or.inl (by omega)), Int.sub_zero]; exact q
    · rw [show x % 101 = x.tmod 101 by rw [e] at d ⊢; split at d <;> (rename_i w; simp [w] at d ⊢; try omega)] at q
      exact q
    · rw [show x % 101 = x.tmod 101 + 101 by rw [e] at d ⊢; split at d <;> (rename_i w; simp [w] at d ⊢; try omega)] at q
      exact q
theorem sp_modulo {x : Int} (hx : ab_inR x) : ab_G 110 0 [some (vi x)] [] h n (0, 0) Q ↔ Q (some (vi (x % 101))) h n := by
  simp only [s110_0, s110_1, s110_3, s110_6, true_and, and_true, true_implies, Option.toList_some, Option.toList_none, List.nil_append, List.cons_append, List.map_nil, List.map_cons, List.sum_nil, List.sum_cons, Nat.zero_le, ab_nl_n, ab_nl_i, ab_nl_r, ab_nl_0, ab_cat_i, ab_cat_r, ab_cat_l, Nat.reduceAdd, Nat.reduceLeDiff, Nat.add_zero, Nat.zero_add, reduceIte, List.getElem?_cons_succ, List.getElem?_cons_zero, List.length_cons, List.length_nil, List.set_cons_zero, List.set_cons_succ, true_or, or_true, Classical.not_not, not_true_eq_false, not_false_eq_true, ab_01r, ab_01z, ab_01n, false_implies, ab_tt, Nat.reduceLT, Nat.reduceEqDiff, Int.reduceNeg, Int.reduceLT, Int.reduceLE, Int.add_zero, Int.zero_add, List.append_nil, Int.reduceEq, ab_sum1, ab_ri_0, ab_ri_1, ab_ri_2, ab_ri_3, ab_ri_4, ab_ri_5, ab_ri_6, ab_ri_7, ab_ri_8, ab_ri_12, ab_ri_30, ab_ri_60, ab_ri_100, ab_ri_101, ab_ri_127, ab_ri_m1, ab_ri_m2, ab_ri_m3, ab_ri_m4, ab_ri_m5, ab_ri_m11, ab_ri_m13, ab_ri_m14, ab_ri_10, sp_floorMod hx]
theorem sp_max {x y : Int} (hx : ab_inR x) (hy : ab_inR y) : ab_G 194 0 [some (vi x), some (vi y)] [] h n (0, 0) Q ↔ Q (some (vi (if x < y then y else x))) h n := by
  simp only [s194_0, s194_1, s194_2, s194_5, s194_6, s194_9, s194_10, true_and, and_true, true_implies, Option.toList_some, Option.toList_none, List.nil_append, List.cons_append, List.map_nil, List.map_cons, List.sum_nil, List.sum_cons, Nat.zero_le, ab_nl_n, ab_nl_i, ab_nl_r, ab_nl_0, ab_cat_i, ab_cat_r, ab_cat_l, Nat.reduceAdd, Nat.reduceLeDiff, Nat.add_zero, Nat.zero_add, reduceIte, List.getElem?_cons_succ, List.getElem?_cons_zero, List.length_cons, List.length_nil, List.set_cons_zero, List.set_cons_succ, true_or, or_true, Classical.not_not, not_true_eq_false, not_false_eq_true, ab_01r, ab_01z, ab_01n, false_implies, ab_tt, Nat.reduceLT, Nat.reduceEqDiff, Int.reduceNeg, Int.reduceLT, Int.reduceLE, Int.add_zero, Int.zero_add, List.append_nil, Int.reduceEq, ab_sum1, ab_ri_0, ab_ri_1, ab_ri_2, ab_ri_3, ab_ri_4, ab_ri_5, ab_ri_6, ab_ri_7, ab_ri_8, ab_ri_12, ab_ri_30, ab_ri_60, ab_ri_100, ab_ri_101, ab_ri_127, ab_ri_m1, ab_ri_m2, ab_ri_m3, ab_ri_m4, ab_ri_m5, ab_ri_m11, ab_ri_m13, ab_ri_m14, ab_ri_10]
  by_cases c : x < y <;> simp [c, eq_true hx, eq_true hy]
theorem sp_min {x y : Int} (hx : ab_inR x) (hy : ab_inR y) : ab_G 195 0 [some (vi x), some (vi y)] [] h n (0, 0) Q ↔ Q (some (vi (if y < x then y else x))) h n := by
  simp only [s195_0, s195_1, s195_2, s195_5, s195_6, s195_9, s195_10, true_and, and_true, true_implies, Option.toList_some, Option.toList_none, List.nil_append, List.cons_append, List.map_nil, List.map_cons, List.sum_nil, List.sum_cons, Nat.zero_le, ab_nl_n, ab_nl_i, ab_nl_r, ab_nl_0, ab_cat_i, ab_cat_r, ab_cat_l, Nat.reduceAdd, Nat.reduceLeDiff, Nat.add_zero, Nat.zero_add, reduceIte, List.getElem?_cons_succ, List.getElem?_cons_zero, List.length_cons, List.length_nil, List.set_cons_zero, List.set_cons_succ, true_or, or_true, Classical.not_not, not_true_eq_false, not_false_eq_true, ab_01r, ab_01z, ab_01n, false_implies, ab_tt, Nat.reduceLT, Nat.reduceEqDiff, Int.reduceNeg, Int.reduceLT, Int.reduceLE, Int.add_zero, Int.zero_add, List.append_nil, Int.reduceEq, ab_sum1, ab_ri_0, ab_ri_1, ab_ri_2, ab_ri_3, ab_ri_4, ab_ri_5, ab_ri_6, ab_ri_7, ab_ri_8, ab_ri_12, ab_ri_30, ab_ri_60, ab_ri_100, ab_ri_101, ab_ri_127, ab_ri_m1, ab_ri_m2, ab_ri_m3, ab_ri_m4, ab_ri_m5, ab_ri_m11, ab_ri_m13, ab_ri_m14, ab_ri_10]
  by_cases c : y < x <;> simp [c, eq_true hx, eq_true hy]
theorem sp_isWithin {x m : Int} (hx : ab_inR x) (hm : ab_inR m) : ab_G 102 0 [some (vi x), some (vi m)] [] h n (0, 0) Q ↔ Q (some (vi (if 0 ≤ x ∧ x ≤ m then 1 else 0))) h n := by
  simp only [s102_0, s102_1, s102_4, s102_5, s102_6, s102_9, s102_10, s102_13, s102_14, true_and, and_true, true_implies, Option.toList_some, Option.toList_none, List.nil_append, List.cons_append, List.map_nil, List.map_cons, List.sum_nil, List.sum_cons, Nat.zero_le, ab_nl_n, ab_nl_i, ab_nl_r, ab_nl_0, ab_cat_i, ab_cat_r, ab_cat_l, Nat.reduceAdd, Nat.reduceLeDiff, Nat.add_zero, Nat.zero_add, reduceIte, List.getElem?_cons_succ, List.getElem?_cons_zero, List.length_cons, List.length_nil, List.set_cons_zero, List.set_cons_succ, true_or, or_true, Classical.not_not, not_true_eq_false, not_false_eq_true, ab_01r, ab_01z, ab_01n, false_implies, ab_tt, Nat.reduceLT, Nat.reduceEqDiff, Int.reduceNeg, Int.reduceLT, Int.reduceLE, Int.add_zero, Int.zero_add, List.append_nil, Int.reduceEq, ab_sum1, ab_ri_0, ab_ri_1, ab_ri_2, ab_ri_3, ab_ri_4, ab_ri_5, ab_ri_6, ab_ri_7, ab_ri_8, ab_ri_12, ab_ri_30, ab_ri_60, ab_ri_100, ab_ri_101, ab_ri_127, ab_ri_m1, ab_ri_m2, ab_ri_m3, ab_ri_m4, ab_ri_m5, ab_ri_m11, ab_ri_m13, ab_ri_m14, ab_ri_10]
  have key : (if 0 ≤ x ∧ x ≤ m then (1 : Int) else 0) = if x < 0 then 0 else if m < x then 0 else 1 := by
    split <;> split <;> (try split) <;> omega
  rw [key]
  by_cases c1 : x < 0 <;> by_cases c2 : m < x <;> simp [c1, c2, eq_true hx, eq_true hm]
theorem sp_isMode {x : Int} (hx : ab_inR x) : ab_G 103 0 [some (vi x)] [] h n (0, 0) Q ↔ Q (some (vi (if -5 ≤ x ∧ x ≤ 5 then 1 else 0))) h n := by
  simp only [s103_0, s103_1, s103_3, s103_6, s103_7, s103_8, s103_11, s103_12, s103_15, s103_16, true_and, and_true, true_implies, Option.toList_some, Option.toList_none, List.nil_append, List.cons_append, List.map_nil, List.map_cons, List.sum_nil, List.sum_cons, Nat.zero_le, ab_nl_n, ab_nl_i, ab_nl_r, ab_nl_0, ab_cat_i, ab_cat_r, ab_cat_l, Nat.reduceAdd, Nat.reduceLeDiff, Nat.add_zero, Nat.zero_add, reduceIte, List.getElem?_cons_succ, List.getElem?_cons_zero, List.length_cons, List.length_nil, List.set_cons_zero, List.set_cons_succ, true_or, or_true, Classical.not_not, not_true_eq_false, not_false_eq_true, ab_01r, ab_01z, ab_01n, false_implies, ab_tt, Nat.reduceLT, Nat.reduceEqDiff, Int.reduceNeg, Int.reduceLT, Int.reduceLE, Int.add_zero, Int.zero_add, List.append_nil, Int.reduceEq, ab_sum1, ab_ri_0, ab_ri_1, ab_ri_2, ab_ri_3, ab_ri_4, ab_ri_5, ab_ri_6, ab_ri_7, ab_ri_8, ab_ri_12, ab_ri_30, ab_ri_60, ab_ri_100, ab_ri_101, ab_ri_127, ab_ri_m1, ab_ri_m2, ab_ri_m3, ab_ri_m4, ab_ri_m5, ab_ri_m11, ab_ri_m13, ab_ri_m14, ab_ri_10]
  have h5 : ab_inR 5 := by omega
  have h5' : ab_inR (-5) := by omega
  have key : (if -5 ≤ x ∧ x ≤ 5 then (1 : Int) else 0) = if x < -5 then 0 else if 5 < x then 0 else 1 := by
    split <;> split <;> (try split) <;> omega
  rw [key]
  by_cases c1 : x < -5 <;> by_cases c2 : 5 < x <;> simp [c1, c2, eq_true hx, eq_true h5, eq_true h5']
theorem sp_isLevel {x : Int} (hx : ab_inR x) : ab_G 104 0 [some (vi x)] [] h n (0, 0) Q ↔ Q (some (vi (if 0 ≤ x ∧ x ≤ 5 then 1 else 0))) h n := by
  simp (disch := omega) only [s104_0, s104_1, s104_2, s104_5, true_and, and_true, true_implies, Option.toList_some, Option.toList_none, List.nil_append, List.cons_append, List.map_nil, List.map_cons, List.sum_nil, List.sum_cons, Nat.zero_le, ab_nl_n, ab_nl_i, ab_nl_r, ab_nl_0, ab_cat_i, ab_cat_r, ab_cat_l, Nat.reduceAdd, Nat.reduceLeDiff, Nat.add_zero, Nat.zero_add, reduceIte, List.getElem?_cons_succ, List.getElem?_cons_zero, List.length_cons, List.length_nil, List.set_cons_zero, List.set_cons_succ, true_or, or_true, Classical.not_not, not_true_eq_false, not_false_eq_true, ab_01r, ab_01z, ab_01n, false_implies, ab_tt, Nat.reduceLT, Nat.reduceEqDiff, Int.reduceNeg, Int.reduceLT, Int.reduceLE, Int.add_zero, Int.zero_add, List.append_nil, Int.reduceEq, ab_sum1, ab_ri_0, ab_ri_1, ab_ri_2, ab_ri_3, ab_ri_4, ab_ri_5, ab_ri_6, ab_ri_7, ab_ri_8, ab_ri_12, ab_ri_30, ab_ri_60, ab_ri_100, ab_ri_101, ab_ri_127, ab_ri_m1, ab_ri_m2, ab_ri_m3, ab_ri_m4, ab_ri_m5, ab_ri_m11, ab_ri_m13, ab_ri_m14, ab_ri_10, sp_isWithin, ab_01n, ab_01z]
  by_cases c : 0 ≤ x ∧ x ≤ 5 <;> simp [c]
theorem sp_isVector {x : Int} (hx : ab_inR x) : ab_G 106 0 [some (vi x)] [] h n (0, 0) Q ↔ Q (some (vi (if 0 ≤ x ∧ x ≤ 3 then 1 else 0))) h n := by
  simp (disch := omega) only [s106_0, s106_1, s106_2, s106_5, true_and, and_true, true_implies, Option.toList_some, Option.toList_none, List.nil_append, List.cons_append, List.map_nil, List.map_cons, List.sum_nil, List.sum_cons, Nat.zero_le, ab_nl_n, ab_nl_i, ab_nl_r, ab_nl_0, ab_cat_i, ab_cat_r, ab_cat_l, Nat.reduceAdd, Nat.reduceLeDiff, Nat.add_zero, Nat.zero_add, reduceIte, List.getElem?_cons_succ, List.getElem?_cons_zero, List.length_cons, List.length_nil, List.set_cons_zero, List.set_cons_succ, true_or, or_true, Classical.not_not, not_true_eq_false, not_false_eq_true, ab_01r, ab_01z, ab_01n, false_implies, ab_tt, Nat.reduceLT, Nat.reduceEqDiff, Int.reduceNeg, Int.reduceLT, Int.reduceLE, Int.add_zero, Int.zero_add, List.append_nil, Int.reduceEq, ab_sum1, ab_ri_0, ab_ri_1, ab_ri_2, ab_ri_3, ab_ri_4, ab_ri_5, ab_ri_6, ab_ri_7, ab_ri_8, ab_ri_12, ab_ri_30, ab_ri_60, ab_ri_100, ab_ri_101, ab_ri_127, ab_ri_m1, ab_ri_m2, ab_ri_m3, ab_ri_m4, ab_ri_m5, ab_ri_m11, ab_ri_m13, ab_ri_m14, ab_ri_10, sp_isWithin, ab_01n, ab_01z]
  by_cases c : 0 ≤ x ∧ x ≤ 3 <;> simp [c]
abbrev ab_isB (lv i : Int) : Prop := (0 ≤ lv ∧ lv ≤ 5) ∧ 0 ≤ i ∧ i < ab_wd lv
theorem sp_isBasis {lv i : Int} (hl : ab_inR lv) (hi : ab_inR i) (hs : ab_stat h) : ab_G 105 0 [some (vi lv), some (vi i)] [] h n (0, 0) Q ↔ Q (some (vi (if ab_isB lv i then 1 else 0))) h n := by
  by_cases c : 0 ≤ lv ∧ lv ≤ 5
  · obtain ⟨w1, w2, w3, w4, w5⟩ := ab_wd_eq c.1 (by omega)
    have g1 : lv < ((7 : Nat) : Int) := by omega
    have g2 : lv + 1 < ((7 : Nat) : Int) := by omega
    have g3 : 0 ≤ lv + 1 := by omega
    have e : ab_START (lv + 1) - ab_START lv - 1 = ab_wd lv - 1 := by omega
    simp (disch := omega) only [s105_0, s105_1, s105_4, s105_7, s105_8, s105_11, s105_12, s105_13, s105_14, s105_15, s105_18, s105_19, s105_20, s105_21, s105_22, s105_23, s105_26, s105_29, s105_30, s105_33, s105_34, true_and, and_true, true_implies, Option.toList_some, Option.toList_none, List.nil_append, List.cons_append, List.map_nil, List.map_cons, List.sum_nil, List.sum_cons, Nat.zero_le, ab_nl_n, ab_nl_i, ab_nl_r, ab_nl_0, ab_cat_i, ab_cat_r, ab_cat_l, Nat.reduceAdd, Nat.reduceLeDiff, Nat.add_zero, Nat.zero_add, reduceIte, List.getElem?_cons_succ, List.getElem?_cons_zero, List.length_cons, List.length_nil, List.set_cons_zero, List.set_cons_succ, true_or, or_true, Classical.not_not, not_true_eq_false, not_false_eq_true, ab_01r, ab_01z, ab_01n, false_implies, ab_tt, Nat.reduceLT, Nat.reduceEqDiff, Int.reduceNeg, Int.reduceLT, Int.reduceLE, Int.add_zero, Int.zero_add, List.append_nil, Int.reduceEq, ab_sum1, ab_ri_0, ab_ri_1, ab_ri_2, ab_ri_3, ab_ri_4, ab_ri_5, ab_ri_6, ab_ri_7, ab_ri_8, ab_ri_12, ab_ri_30, ab_ri_60, ab_ri_100, ab_ri_101, ab_ri_127, ab_ri_m1, ab_ri_m2, ab_ri_m3, ab_ri_m4, ab_ri_m5, ab_ri_m11, ab_ri_m13, ab_ri_m14, ab_ri_10, sp_isLevel, c, ab_ai, hs.1, g1, g2, g3, e, sp_isWithin]
    by_cases d : 0 ≤ i ∧ i ≤ ab_wd lv - 1
    · have d2 : ab_isB lv i := ⟨c, d.1, by omega⟩
      rw [if_pos d2]
      simp [d, ab_inR]
    · have d2 : ¬ ab_isB lv i := fun z => d ⟨z.2.1, by have := z.2.2; omega⟩
      rw [if_neg d2]
      simp [d, ab_inR]
  · have d2 : ¬ ab_isB lv i := fun z => c z.1
    simp (disch := omega) only [s105_0, s105_1, s105_4, s105_7, s105_8, s105_11, s105_12, s105_13, s105_14, s105_15, s105_18, s105_19, s105_20, s105_21, s105_22, s105_23, s105_26, s105_29, s105_30, s105_33, s105_34, true_and, and_true, true_implies, Option.toList_some, Option.toList_none, List.nil_append, List.cons_append, List.map_nil, List.map_cons, List.sum_nil, List.sum_cons, Nat.zero_le, ab_nl_n, ab_nl_i, ab_nl_r, ab_nl_0, ab_cat_i, ab_cat_r, ab_cat_l, Nat.reduceAdd, Nat.reduceLeDiff, Nat.add_zero, Nat.zero_add, reduceIte, List.getElem?_cons_succ, List.getElem?_cons_zero, List.length_cons, List.length_nil, List.set_cons_zero, List.set_cons_succ, true_or, or_true, Classical.not_not, not_true_eq_false, not_false_eq_true, ab_01r, ab_01z, ab_01n, false_implies, ab_tt, Nat.reduceLT, Nat.reduceEqDiff, Int.reduceNeg, Int.reduceLT, Int.reduceLE, Int.add_zero, Int.zero_add, List.append_nil, Int.reduceEq, ab_sum1, ab_ri_0, ab_ri_1, ab_ri_2, ab_ri_3, ab_ri_4, ab_ri_5, ab_ri_6, ab_ri_7, ab_ri_8, ab_ri_12, ab_ri_30, ab_ri_60, ab_ri_100, ab_ri_101, ab_ri_127, ab_ri_m1, ab_ri_m2, ab_ri_m3, ab_ri_m4, ab_ri_m5, ab_ri_m11, ab_ri_m13, ab_ri_m14, ab_ri_10, sp_isLevel, c, d2]
theorem sp_part {b k : Int} (hs : ab_stat h) (hb : 0 ≤ b ∧ b < 19) (hk : 0 ≤ k ∧ k < 6) (q : Q (some (vi (ab_FIRST (ab_rests b k.toNat)))) h n) : ab_G 109 0 [some (vi b), some (vi k), none, none] [] h n (0, 0) Q := by
  have hr : ∀ m : Nat, 0 ≤ ab_rests b m ∧ ab_rests b m < 19 := by
    intro m
    induction m with
    | zero => exact hb
    | succ m ih => exact ab_tb_all (P := fun z => 0 ≤ ab_REST z ∧ ab_REST z < 19) (m := 19) (by decide) ih.1 ih.2
  simp only [s109_0, s109_1, s109_2, s109_3, true_and, and_true, true_implies, Option.toList_some, Option.toList_none, List.nil_append, List.cons_append, List.map_nil, List.map_cons, List.sum_nil, List.sum_cons, Nat.zero_le, ab_nl_n, ab_nl_i, ab_nl_r, ab_nl_0, ab_cat_i, ab_cat_r, ab_cat_l, Nat.reduceAdd, Nat.reduceLeDiff, Nat.add_zero, Nat.zero_add, reduceIte, List.getElem?_cons_succ, List.getElem?_cons_zero, List.length_cons, List.length_nil, List.set_cons_zero, List.set_cons_succ, true_or, or_true, Classical.not_not, not_true_eq_false, not_false_eq_true, ab_01r, ab_01z, ab_01n, false_implies, ab_tt, Nat.reduceLT, Nat.reduceEqDiff, Int.reduceNeg, Int.reduceLT, Int.reduceLE, Int.add_zero, Int.zero_add, List.append_nil, Int.reduceEq, ab_sum1, ab_ri_0, ab_ri_1, ab_ri_2, ab_ri_3, ab_ri_4, ab_ri_5, ab_ri_6, ab_ri_7, ab_ri_8, ab_ri_12, ab_ri_30, ab_ri_60, ab_ri_100, ab_ri_101, ab_ri_127, ab_ri_m1, ab_ri_m2, ab_ri_m3, ab_ri_m4, ab_ri_m5, ab_ri_m11, ab_ri_m13, ab_ri_m14, ab_ri_10]
  refine ab_lp 0 k (fun i => [some (vi b), some (vi k), some (vi (ab_rests b i.toNat)), some (vi i)]) (fun _ => h) hk.1 rfl rfl ?_ ?_
  · have r := hr k.toNat
    have g : ab_rests b k.toNat < ((19 : Nat) : Int) := r.2
    rw [s109_4, s109_5, s109_6]
    refine ⟨by omega, by omega, fun _ => ?_, fun z => absurd (Int.le_refl _) z⟩
    simp only [s109_21, s109_24, s109_25, s109_26, true_and, and_true, true_implies, Option.toList_some, Option.toList_none, List.nil_append, List.cons_append, List.map_nil, List.map_cons, List.sum_nil, List.sum_cons, Nat.zero_le, ab_nl_n, ab_nl_i, ab_nl_r, ab_nl_0, ab_cat_i, ab_cat_r, ab_cat_l, Nat.reduceAdd, Nat.reduceLeDiff, Nat.add_zero, Nat.zero_add, reduceIte, List.getElem?_cons_succ, List.getElem?_cons_zero, List.length_cons, List.length_nil, List.set_cons_zero, List.set_cons_succ, true_or, or_true, Classical.not_not, not_true_eq_false, not_false_eq_true, ab_01r, ab_01z, ab_01n, false_implies, ab_tt, Nat.reduceLT, Nat.reduceEqDiff, Int.reduceNeg, Int.reduceLT, Int.reduceLE, Int.add_zero, Int.zero_add, List.append_nil, Int.reduceEq, ab_sum1, ab_ri_0, ab_ri_1, ab_ri_2, ab_ri_3, ab_ri_4, ab_ri_5, ab_ri_6, ab_ri_7, ab_ri_8, ab_ri_12, ab_ri_30, ab_ri_60, ab_ri_100, ab_ri_101, ab_ri_127, ab_ri_m1, ab_ri_m2, ab_ri_m3, ab_ri_m4, ab_ri_m5, ab_ri_m11, ab_ri_m13, ab_ri_m14, ab_ri_10, ab_ai, hs.2.2.2.1, r.1, g, q]
  · intro i h0 h9 ih
    have r := hr i.toNat
    have g : ab_rests b i.toNat < ((19 : Nat) : Int) := r.2
    have ei : (i + 1).toNat = i.toNat + 1 := by omega
    have hn : ¬ k ≤ i := by omega
    rw [ei] at ih
    simp only [ab_rests] at ih
    rw [s109_4]
    simp only [s109_5, s109_6, s109_9, s109_12, s109_13, s109_14, s109_15, s109_18, s109_21, s109_24, s109_25, s109_26, true_and, and_true, true_implies, Option.toList_some, Option.toList_none, List.nil_append, List.cons_append, List.map_nil, List.map_cons, List.sum_nil, List.sum_cons, Nat.zero_le, ab_nl_n, ab_nl_i, ab_nl_r, ab_nl_0, ab_cat_i, ab_cat_r, ab_cat_l, Nat.reduceAdd, Nat.reduceLeDiff, Nat.add_zero, Nat.zero_add, reduceIte, List.getElem?_cons_succ, List.getElem?_cons_zero, List.length_cons, List.length_nil, List.set_cons_zero, List.set_cons_succ, true_or, or_true, Classical.not_not, not_true_eq_false, not_false_eq_true, ab_01r, ab_01z, ab_01n, false_implies, ab_tt, Nat.reduceLT, Nat.reduceEqDiff, Int.reduceNeg, Int.reduceLT, Int.reduceLE, Int.add_zero, Int.zero_add, List.append_nil, Int.reduceEq, ab_sum1, ab_ri_0, ab_ri_1, ab_ri_2, ab_ri_3, ab_ri_4, ab_ri_5, ab_ri_6, ab_ri_7, ab_ri_8, ab_ri_12, ab_ri_30, ab_ri_60, ab_ri_100, ab_ri_101, ab_ri_127, ab_ri_m1, ab_ri_m2, ab_ri_m3, ab_ri_m4, ab_ri_m5, ab_ri_m11, ab_ri_m13, ab_ri_m14, ab_ri_10, ab_ai, hs.2.2.1, r.1, g, hn, ih]
    omega
end ST
