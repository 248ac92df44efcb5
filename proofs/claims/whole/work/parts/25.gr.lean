/-! ===== Grid ===== -/
abbrev ab_gr (b p : Nat) (R C F P : Int) : ab_C := .inl (2, [vr b, vr p, vi R, vi C, vi F, vi P])
/-- rows of 7, one behind the other -/
def ab_flt (M : Int → Int → Int) : Int → Int := fun j => M (j / 7) (j % 7)
def ab_un (f : Int → Int) : Int → Int → Int := fun r c => f (r * 7 + c)
theorem ab_flt_un {f : Int → Int} : ab_flt (ab_un f) = f := by
  funext j
  show f (j / 7 * 7 + j % 7) = f j
  rw [show j / 7 * 7 + j % 7 = j by omega]
def ab_u2 (M : Int → Int → Int) (r c x : Int) : Int → Int → Int := fun i j => if i = r ∧ j = c then x else M i j
theorem ab_flt_at {M : Int → Int → Int} {r c : Int} (h0 : 0 ≤ c) (h1 : c < 7) : ab_flt M (r * 7 + c) = M r c := by
  unfold ab_flt
  rw [show (r * 7 + c) / 7 = r by omega, show (r * 7 + c) % 7 = c by omega]
theorem ab_flt_ui {M : Int → Int → Int} {r c x : Int} (h0 : 0 ≤ c) (h1 : c < 7) : ab_ui (ab_flt M) (r * 7 + c) x = ab_flt (ab_u2 M r c x) := by
  funext j
  unfold ab_ui ab_flt ab_u2
  by_cases e : j = r * 7 + c
  · rw [if_pos e, if_pos (by omega)]
  · rw [if_neg e, if_neg (by omega)]
def ab_v2 (M : Int → Int → Int) : Prop := ∀ r c, 0 ≤ r → r < 12 → 0 ≤ c → c < 7 → 0 ≤ M r c ∧ M r c ≤ 100
def ab_sw (M : Int → Int → Int) (r q C : Int) : Int → Int → Int := fun a b => if 0 ≤ b ∧ b < C then (if a = r then M q b else if a = q then M r b else M a b) else M a b
def ab_mw (M : Int → Int → Int) (r y C : Int) : Int → Int → Int := fun a b => if a = r ∧ 0 ≤ b ∧ b < C then M a b * y % 101 else M a b
def ab_cw (M : Int → Int → Int) (r pr t C : Int) : Int → Int → Int := fun a b => if a = r ∧ 0 ≤ b ∧ b < C then (M a b + t * M pr b) % 101 else M a b
def ab_cl (M : Int → Int → Int) (col pr C : Int) : Nat → Int → Int → Int
  | 0 => M
  | k + 1 => if (k : Int) = pr ∨ ab_cl M col pr C k k col = 0 then ab_cl M col pr C k else ab_cw (ab_cl M col pr C k) k pr (101 - ab_cl M col pr C k k col) C
/-- the first row from r on that is not 0 in a column -/
def ab_pv (M : Int → Int → Int) (c r : Int) : Nat → Int
  | 0 => -1
  | k + 1 => if M r c = 0 then ab_pv M c (r + 1) k else r
theorem ab_v2_sw {M : Int → Int → Int} {r q C : Int} (hv : ab_v2 M) (hr : 0 ≤ r ∧ r < 12) (hq : 0 ≤ q ∧ q < 12) : ab_v2 (ab_sw M r q C) := by
  intro a b h0 h1 h2 h3
  have e1 := hv q b hq.1 hq.2 h2 h3
  have e2 := hv r b hr.1 hr.2 h2 h3
  have e3 := hv a b h0 h1 h2 h3
  unfold ab_sw
  (repeat' split) <;> assumption
theorem ab_v2_mw {M : Int → Int → Int} {r y C : Int} (hv : ab_v2 M) : ab_v2 (ab_mw M r y C) := by
  intro a b h0 h1 h2 h3
  have e3 := hv a b h0 h1 h2 h3
  unfold ab_mw
  split
  · omega
  · exact e3
theorem ab_v2_cw {M : Int → Int → Int} {r pr t C : Int} (hv : ab_v2 M) : ab_v2 (ab_cw M r pr t C) := by
  intro a b h0 h1 h2 h3
  have e3 := hv a b h0 h1 h2 h3
  unfold ab_cw
  split
  · omega
  · exact e3
theorem ab_v2_cl {M : Int → Int → Int} {col pr C : Int} (hv : ab_v2 M) : ∀ k, ab_v2 (ab_cl M col pr C k)
  | 0 => hv
  | k + 1 => by
    have ih := ab_v2_cl (col := col) (pr := pr) (C := C) hv k
    unfold ab_cl
    split
    · exact ih
    · exact ab_v2_cw ih
theorem ab_pv_r {M : Int → Int → Int} {c : Int} : ∀ (k : Nat) (r : Int), ab_pv M c r k = -1 ∨ (r ≤ ab_pv M c r k ∧ ab_pv M c r k < r + k ∧ M (ab_pv M c r k) c ≠ 0)
  | 0, r => Or.inl rfl
  | k + 1, r => by
    have ih := ab_pv_r (M := M) (c := c) k (r + 1)
    unfold ab_pv
    split
    · rcases ih with e | ⟨e1, e2, e3⟩
      · exact Or.inl e
      · exact Or.inr ⟨by omega, by omega, e3⟩
    · rename_i e
      exact Or.inr ⟨Int.le_refl _, by omega, e⟩
section GR
variable {h : ab_H} {n : Nat} {Q : ab_Q} {a b p : Nat} {R C F P : Int} {M : Int → Int → Int}
theorem sp_resize {r c : Int} (h6 : 6 ≤ a) (h1 : h a = some (ab_gr b p R C F P)) (q : Q none (ab_hs h a (ab_gr b p r c F P)) n) : ab_G 6 0 [some (vr a), some (vi r), some (vi c)] [] h n (0, 0) Q := by
  simp only [s6_0, s6_1, s6_2, s6_5, s6_6, s6_7, s6_10, true_and, and_true, true_implies, Option.toList_some, Option.toList_none, List.nil_append, List.cons_append, List.map_nil, List.map_cons, List.sum_nil, List.sum_cons, Nat.zero_le, ab_nl_n, ab_nl_i, ab_nl_r, ab_nl_0, ab_cat_i, ab_cat_r, ab_cat_l, Nat.reduceAdd, Nat.reduceLeDiff, Nat.add_zero, Nat.zero_add, reduceIte, List.getElem?_cons_succ, List.getElem?_cons_zero, List.length_cons, List.length_nil, List.set_cons_zero, List.set_cons_succ, true_or, or_true, Classical.not_not, not_true_eq_false, not_false_eq_true, ab_01r, ab_01z, ab_01n, false_implies, ab_tt, Nat.reduceLT, Nat.reduceEqDiff, Int.reduceNeg, Int.reduceLT, Int.reduceLE, Int.add_zero, Int.zero_add, List.append_nil, Int.reduceEq, ab_sum1, ab_ri_0, ab_ri_1, ab_ri_2, ab_ri_3, ab_ri_4, ab_ri_5, ab_ri_6, ab_ri_7, ab_ri_8, ab_ri_12, ab_ri_30, ab_ri_60, ab_ri_100, ab_ri_101, ab_ri_127, ab_ri_m1, ab_ri_m2, ab_ri_m3, ab_ri_m4, ab_ri_m5, ab_ri_m11, ab_ri_m13, ab_ri_m14, ab_ri_10, ab_fs, h1, h6, ab_fit, ab_tyf, tyX2, ab_hs_self, ab_hs_hs, q]
theorem sp_store {r c x : Int} (h6 : 6 ≤ a) (hb6 : 6 ≤ b) (h1 : h a = some (ab_gr b p R C F P)) (h2 : h b = some (ab_ia 84 (ab_flt M))) (hr : 0 ≤ r ∧ r < 12) (hc : 0 ≤ c ∧ c < 7) (q : Q none (ab_hs h b (ab_ia 84 (ab_flt (ab_u2 M r c x)))) n) : ab_G 7 0 [some (vr a), some (vi r), some (vi c), some (vi x)] [] h n (0, 0) Q := by
  have e1 : 0 ≤ r * 7 + c := by omega
  have e2 : r * 7 + c < ((84 : Nat) : Int) := by omega
  simp only [s7_0, s7_1, s7_4, s7_5, s7_7, s7_8, s7_9, s7_10, s7_11, s7_12, true_and, and_true, true_implies, Option.toList_some, Option.toList_none, List.nil_append, List.cons_append, List.map_nil, List.map_cons, List.sum_nil, List.sum_cons, Nat.zero_le, ab_nl_n, ab_nl_i, ab_nl_r, ab_nl_0, ab_cat_i, ab_cat_r, ab_cat_l, Nat.reduceAdd, Nat.reduceLeDiff, Nat.add_zero, Nat.zero_add, reduceIte, List.getElem?_cons_succ, List.getElem?_cons_zero, List.length_cons, List.length_nil, List.set_cons_zero, List.set_cons_succ, true_or, or_true, Classical.not_not, not_true_eq_false, not_false_eq_true, ab_01r, ab_01z, ab_01n, false_implies, ab_tt, Nat.reduceLT, Nat.reduceEqDiff, Int.reduceNeg, Int.reduceLT, Int.reduceLE, Int.add_zero, Int.zero_add, List.append_nil, Int.reduceEq, ab_sum1, ab_ri_0, ab_ri_1, ab_ri_2, ab_ri_3, ab_ri_4, ab_ri_5, ab_ri_6, ab_ri_7, ab_ri_8, ab_ri_12, ab_ri_30, ab_ri_60, ab_ri_100, ab_ri_101, ab_ri_127, ab_ri_m1, ab_ri_m2, ab_ri_m3, ab_ri_m4, ab_ri_m5, ab_ri_m11, ab_ri_m13, ab_ri_m14, ab_ri_10, ab_fd, ab_as, h1, h2, h6, hb6, e1, e2, ab_flt_ui hc.1 hc.2, q] <;> omega
theorem sp_pivotRow {c : Int} (h6 : 6 ≤ a) (hb6 : 6 ≤ b) (h1 : h a = some (ab_gr b p R C F P)) (h2 : h b = some (ab_ia 84 (ab_flt M))) (hv : ab_v2 M) (hF : 0 ≤ F ∧ F ≤ R) (hR : R ≤ 12) (hc : 0 ≤ c ∧ c < 7) (q : Q (some (vi (ab_pv M c F (R - F).toNat))) h n) : ab_G 9 0 [some (vr a), some (vi c), none] [] h n (0, 0) Q := by
  simp only [s9_0, s9_1, s9_4, true_and, and_true, true_implies, Option.toList_some, Option.toList_none, List.nil_append, List.cons_append, List.map_nil, List.map_cons, List.sum_nil, List.sum_cons, Nat.zero_le, ab_nl_n, ab_nl_i, ab_nl_r, ab_nl_0, ab_cat_i, ab_cat_r, ab_cat_l, Nat.reduceAdd, Nat.reduceLeDiff, Nat.add_zero, Nat.zero_add, reduceIte, List.getElem?_cons_succ, List.getElem?_cons_zero, List.length_cons, List.length_nil, List.set_cons_zero, List.set_cons_succ, true_or, or_true, Classical.not_not, not_true_eq_false, not_false_eq_true, ab_01r, ab_01z, ab_01n, false_implies, ab_tt, Nat.reduceLT, Nat.reduceEqDiff, Int.reduceNeg, Int.reduceLT, Int.reduceLE, Int.add_zero, Int.zero_add, List.append_nil, Int.reduceEq, ab_sum1, ab_ri_0, ab_ri_1, ab_ri_2, ab_ri_3, ab_ri_4, ab_ri_5, ab_ri_6, ab_ri_7, ab_ri_8, ab_ri_12, ab_ri_30, ab_ri_60, ab_ri_100, ab_ri_101, ab_ri_127, ab_ri_m1, ab_ri_m2, ab_ri_m3, ab_ri_m4, ab_ri_m5, ab_ri_m11, ab_ri_m13, ab_ri_m14, ab_ri_10, ab_fd, h1, h6]
  have key := ab_dn (P := fun i => Q (some (vi (ab_pv M c i (R - i).toNat))) h n → ab_G 9 5 [some (vr a), some (vi c), some (vi i)] [] h n (0, 0) Q) (a := F) (e := R) hF.2 ?_ ?_
  · exact key q
  · intro q
    simp only [Int.sub_self, show (0 : Int).toNat = 0 from rfl, ab_pv] at q
    rw [s9_5]
    simp only [s9_6, s9_7, s9_10, s9_13, s9_14, s9_17, s9_18, s9_20, s9_21, s9_22, s9_23, s9_24, s9_27, s9_28, s9_29, s9_32, s9_35, s9_36, true_and, and_true, true_implies, Option.toList_some, Option.toList_none, List.nil_append, List.cons_append, List.map_nil, List.map_cons, List.sum_nil, List.sum_cons, Nat.zero_le, ab_nl_n, ab_nl_i, ab_nl_r, ab_nl_0, ab_cat_i, ab_cat_r, ab_cat_l, Nat.reduceAdd, Nat.reduceLeDiff, Nat.add_zero, Nat.zero_add, reduceIte, List.getElem?_cons_succ, List.getElem?_cons_zero, List.length_cons, List.length_nil, List.set_cons_zero, List.set_cons_succ, true_or, or_true, Classical.not_not, not_true_eq_false, not_false_eq_true, ab_01r, ab_01z, ab_01n, false_implies, ab_tt, Nat.reduceLT, Nat.reduceEqDiff, Int.reduceNeg, Int.reduceLT, Int.reduceLE, Int.add_zero, Int.zero_add, List.append_nil, Int.reduceEq, ab_sum1, ab_ri_0, ab_ri_1, ab_ri_2, ab_ri_3, ab_ri_4, ab_ri_5, ab_ri_6, ab_ri_7, ab_ri_8, ab_ri_12, ab_ri_30, ab_ri_60, ab_ri_100, ab_ri_101, ab_ri_127, ab_ri_m1, ab_ri_m2, ab_ri_m3, ab_ri_m4, ab_ri_m5, ab_ri_m11, ab_ri_m13, ab_ri_m14, ab_ri_10, ab_fd, h1, h6, Int.le_refl, q] <;> omega
  · intro i h0 h9 ih q
    have ei : (R - i).toNat = (R - (i + 1)).toNat + 1 := by omega
    rw [ei, ab_pv] at q
    have hn : ¬ R ≤ i := by omega
    have e1 : 0 ≤ i * 7 + c := by omega
    have e2 : i * 7 + c < ((84 : Nat) : Int) := by omega
    have hm := hv i c (by omega) (by omega) hc.1 hc.2
    rw [s9_5]
    by_cases z : M i c = 0
    · rw [if_pos z] at q
      have ih := ih q
      simp only [s9_6, s9_7, s9_10, s9_13, s9_14, s9_17, s9_18, s9_20, s9_21, s9_22, s9_23, s9_24, s9_27, s9_28, s9_29, s9_32, s9_35, s9_36, true_and, and_true, true_implies, Option.toList_some, Option.toList_none, List.nil_append, List.cons_append, List.map_nil, List.map_cons, List.sum_nil, List.sum_cons, Nat.zero_le, ab_nl_n, ab_nl_i, ab_nl_r, ab_nl_0, ab_cat_i, ab_cat_r, ab_cat_l, Nat.reduceAdd, Nat.reduceLeDiff, Nat.add_zero, Nat.zero_add, reduceIte, List.getElem?_cons_succ, List.getElem?_cons_zero, List.length_cons, List.length_nil, List.set_cons_zero, List.set_cons_succ, true_or, or_true, Classical.not_not, not_true_eq_false, not_false_eq_true, ab_01r, ab_01z, ab_01n, false_implies, ab_tt, Nat.reduceLT, Nat.reduceEqDiff, Int.reduceNeg, Int.reduceLT, Int.reduceLE, Int.add_zero, Int.zero_add, List.append_nil, Int.reduceEq, ab_sum1, ab_ri_0, ab_ri_1, ab_ri_2, ab_ri_3, ab_ri_4, ab_ri_5, ab_ri_6, ab_ri_7, ab_ri_8, ab_ri_12, ab_ri_30, ab_ri_60, ab_ri_100, ab_ri_101, ab_ri_127, ab_ri_m1, ab_ri_m2, ab_ri_m3, ab_ri_m4, ab_ri_m5, ab_ri_m11, ab_ri_m13, ab_ri_m14, ab_ri_10, ab_fd, ab_ai, h1, h2, h6, hb6, hn, e1, e2, ab_flt_at hc.1 hc.2, z, ih] <;> omega
    · rw [if_neg z] at q
      simp only [s9_6, s9_7, s9_10, s9_13, s9_14, s9_17, s9_18, s9_20, s9_21, s9_22, s9_23, s9_24, s9_27, s9_28, s9_29, s9_32, s9_35, s9_36, true_and, and_true, true_implies, Option.toList_some, Option.toList_none, List.nil_append, List.cons_append, List.map_nil, List.map_cons, List.sum_nil, List.sum_cons, Nat.zero_le, ab_nl_n, ab_nl_i, ab_nl_r, ab_nl_0, ab_cat_i, ab_cat_r, ab_cat_l, Nat.reduceAdd, Nat.reduceLeDiff, Nat.add_zero, Nat.zero_add, reduceIte, List.getElem?_cons_succ, List.getElem?_cons_zero, List.length_cons, List.length_nil, List.set_cons_zero, List.set_cons_succ, true_or, or_true, Classical.not_not, not_true_eq_false, not_false_eq_true, ab_01r, ab_01z, ab_01n, false_implies, ab_tt, Nat.reduceLT, Nat.reduceEqDiff, Int.reduceNeg, Int.reduceLT, Int.reduceLE, Int.add_zero, Int.zero_add, List.append_nil, Int.reduceEq, ab_sum1, ab_ri_0, ab_ri_1, ab_ri_2, ab_ri_3, ab_ri_4, ab_ri_5, ab_ri_6, ab_ri_7, ab_ri_8, ab_ri_12, ab_ri_30, ab_ri_60, ab_ri_100, ab_ri_101, ab_ri_127, ab_ri_m1, ab_ri_m2, ab_ri_m3, ab_ri_m4, ab_ri_m5, ab_ri_m11, ab_ri_m13, ab_ri_m14, ab_ri_10, ab_fd, ab_ai, h1, h2, h6, hb6, hn, e1, e2, ab_flt_at hc.1 hc.2, z, q] <;> omega
theorem sp_exchange {r s : Int} (h6 : 6 ≤ a) (hb6 : 6 ≤ b) (hab : a ≠ b) (h1 : h a = some (ab_gr b p R C F P)) (h2 : h b = some (ab_ia 84 (ab_flt M))) (hC : 0 ≤ C ∧ C ≤ 7) (hr : 0 ≤ r ∧ r < 12) (hs : 0 ≤ s ∧ s < 12) (hrs : r ≠ s) (q : Q none (ab_hs h b (ab_ia 84 (ab_flt (ab_sw M r s C)))) n) : ab_G 10 0 [some (vr a), some (vi r), some (vi s), none, none] [] h n (0, 0) Q := by
  simp only [s10_0, s10_1, true_and, and_true, true_implies, Option.toList_some, Option.toList_none, List.nil_append, List.cons_append, List.map_nil, List.map_cons, List.sum_nil, List.sum_cons, Nat.zero_le, ab_nl_n, ab_nl_i, ab_nl_r, ab_nl_0, ab_cat_i, ab_cat_r, ab_cat_l, Nat.reduceAdd, Nat.reduceLeDiff, Nat.add_zero, Nat.zero_add, reduceIte, List.getElem?_cons_succ, List.getElem?_cons_zero, List.length_cons, List.length_nil, List.set_cons_zero, List.set_cons_succ, true_or, or_true, Classical.not_not, not_true_eq_false, not_false_eq_true, ab_01r, ab_01z, ab_01n, false_implies, ab_tt, Nat.reduceLT, Nat.reduceEqDiff, Int.reduceNeg, Int.reduceLT, Int.reduceLE, Int.add_zero, Int.zero_add, List.append_nil, Int.reduceEq, ab_sum1, ab_ri_0, ab_ri_1, ab_ri_2, ab_ri_3, ab_ri_4, ab_ri_5, ab_ri_6, ab_ri_7, ab_ri_8, ab_ri_12, ab_ri_30, ab_ri_60, ab_ri_100, ab_ri_101, ab_ri_127, ab_ri_m1, ab_ri_m2, ab_ri_m3, ab_ri_m4, ab_ri_m5, ab_ri_m11, ab_ri_m13, ab_ri_m14, ab_ri_10]
  have key := ab_dn (P := fun i => ∀ l : Option ab_V, ab_nl [l] = true → ab_G 10 2 [some (vr a), some (vi r), some (vi s), some (vi i), l] [] (ab_hs h b (ab_ia 84 (ab_flt (ab_sw M r s i)))) n (0, 0) Q) (a := 0) (e := C) hC.1 ?_ ?_
  · have z : ab_hs h b (ab_ia 84 (ab_flt (ab_sw M r s 0))) = h := by
      have : ab_sw M r s 0 = M := by funext x y; unfold ab_sw; rw [if_neg (by omega)]
      rw [this, ab_hs_id h2]
    have := key none rfl
    rw [z] at this
    exact this
  · intro l hl
    rw [s10_2]
    simp only [s10_3, s10_4, s10_7, s10_10, s10_11, s10_14, s10_15, s10_17, s10_18, s10_19, s10_20, s10_21, s10_23, s10_24, s10_27, s10_28, s10_30, s10_31, s10_32, s10_33, s10_34, s10_37, s10_38, s10_40, s10_41, s10_42, s10_43, s10_44, s10_45, s10_46, s10_49, s10_50, s10_52, s10_53, s10_54, s10_55, s10_57, s10_58, s10_61, s10_64, true_and, and_true, true_implies, Option.toList_some, Option.toList_none, List.nil_append, List.cons_append, List.map_nil, List.map_cons, List.sum_nil, List.sum_cons, Nat.zero_le, ab_nl_n, ab_nl_i, ab_nl_r, ab_nl_0, ab_cat_i, ab_cat_r, ab_cat_l, Nat.reduceAdd, Nat.reduceLeDiff, Nat.add_zero, Nat.zero_add, reduceIte, List.getElem?_cons_succ, List.getElem?_cons_zero, List.length_cons, List.length_nil, List.set_cons_zero, List.set_cons_succ, true_or, or_true, Classical.not_not, not_true_eq_false, not_false_eq_true, ab_01r, ab_01z, ab_01n, false_implies, ab_tt, Nat.reduceLT, Nat.reduceEqDiff, Int.reduceNeg, Int.reduceLT, Int.reduceLE, Int.add_zero, Int.zero_add, List.append_nil, Int.reduceEq, ab_sum1, ab_ri_0, ab_ri_1, ab_ri_2, ab_ri_3, ab_ri_4, ab_ri_5, ab_ri_6, ab_ri_7, ab_ri_8, ab_ri_12, ab_ri_30, ab_ri_60, ab_ri_100, ab_ri_101, ab_ri_127, ab_ri_m1, ab_ri_m2, ab_ri_m3, ab_ri_m4, ab_ri_m5, ab_ri_m11, ab_ri_m13, ab_ri_m14, ab_ri_10, ab_fd, ab_hs_ne hab, h1, h6, Int.le_refl, Int.lt_irrefl, hl, q] <;> omega
  · intro i h0 h9 ih l hl
    have hn : ¬ C ≤ i := by omega
    have i7 : i < 7 := by omega
    have e1 : 0 ≤ r * 7 + i := by omega
    have e2 : r * 7 + i < ((84 : Nat) : Int) := by omega
    have e3 : 0 ≤ s * 7 + i := by omega
    have e4 : s * 7 + i < ((84 : Nat) : Int) := by omega
    have ih := ih (some (vi (ab_sw M r s i r i))) rfl
    have en : ab_u2 (ab_u2 (ab_sw M r s i) r i (ab_sw M r s i s i)) s i (ab_sw M r s i r i) = ab_sw M r s (i + 1) := by
      funext x y
      unfold ab_u2 ab_sw
      by_cases c1 : y = i
      · subst c1
        by_cases c2 : x = s
        · subst c2; rw [if_pos ⟨rfl, rfl⟩, if_neg (by omega), if_pos (by omega), if_neg (Ne.symm hrs), if_pos rfl]
        · rw [if_neg (fun z => c2 z.1)]
          by_cases c3 : x = r
          · subst c3; rw [if_pos ⟨rfl, rfl⟩, if_neg (by omega), if_pos (by omega), if_pos rfl]
          · rw [if_neg (fun z => c3 z.1), if_neg (by omega), if_pos (by omega), if_neg c3, if_neg c2]
      · rw [if_neg (fun z => c1 z.2), if_neg (fun z => c1 z.2)]
        by_cases c4 : 0 ≤ y ∧ y < i
        · rw [if_pos c4, if_pos (show 0 ≤ y ∧ y < i + 1 by omega)]
        · rw [if_neg c4, if_neg (show ¬ (0 ≤ y ∧ y < i + 1) by omega)]
    rw [← en] at ih
    rw [s10_2]
    simp only [s10_3, s10_4, s10_7, s10_10, s10_11, s10_14, s10_15, s10_17, s10_18, s10_19, s10_20, s10_21, s10_23, s10_24, s10_27, s10_28, s10_30, s10_31, s10_32, s10_33, s10_34, s10_37, s10_38, s10_40, s10_41, s10_42, s10_43, s10_44, s10_45, s10_46, s10_49, s10_50, s10_52, s10_53, s10_54, s10_55, s10_57, s10_58, s10_61, s10_64, true_and, and_true, true_implies, Option.toList_some, Option.toList_none, List.nil_append, List.cons_append, List.map_nil, List.map_cons, List.sum_nil, List.sum_cons, Nat.zero_le, ab_nl_n, ab_nl_i, ab_nl_r, ab_nl_0, ab_cat_i, ab_cat_r, ab_cat_l, Nat.reduceAdd, Nat.reduceLeDiff, Nat.add_zero, Nat.zero_add, reduceIte, List.getElem?_cons_succ, List.getElem?_cons_zero, List.length_cons, List.length_nil, List.set_cons_zero, List.set_cons_succ, true_or, or_true, Classical.not_not, not_true_eq_false, not_false_eq_true, ab_01r, ab_01z, ab_01n, false_implies, ab_tt, Nat.reduceLT, Nat.reduceEqDiff, Int.reduceNeg, Int.reduceLT, Int.reduceLE, Int.add_zero, Int.zero_add, List.append_nil, Int.reduceEq, ab_sum1, ab_ri_0, ab_ri_1, ab_ri_2, ab_ri_3, ab_ri_4, ab_ri_5, ab_ri_6, ab_ri_7, ab_ri_8, ab_ri_12, ab_ri_30, ab_ri_60, ab_ri_100, ab_ri_101, ab_ri_127, ab_ri_m1, ab_ri_m2, ab_ri_m3, ab_ri_m4, ab_ri_m5, ab_ri_m11, ab_ri_m13, ab_ri_m14, ab_ri_10, ab_fd, ab_ai, ab_as, ab_hs_self, ab_hs_hs, ab_hs_ne hab, h1, h6, hb6, hn, h9, e1, e2, e3, e4, ab_flt_at h0 i7, ab_flt_ui h0 i7, hl, ih] <;> omega
end GR
