/-! ===== Vector ===== -/
abbrev ab_vec (b : Nat) (hg : Int) : ab_C := .inl (10, [vi hg, vr b])
abbrev ab_ia (m : Nat) (f : Int → Int) : ab_C := .inr (.inl (0, m, f))
/-- how many of the first places are not 0 -/
def ab_nz (f : Int → Int) : Nat → Int
  | 0 => 0
  | m + 1 => ab_nz f m + (if f m = 0 then 0 else 1)
theorem ab_nz_b (f : Int → Int) : ∀ m : Nat, 0 ≤ ab_nz f m ∧ ab_nz f m ≤ m
  | 0 => by simp [ab_nz]
  | m + 1 => by
    have ih := ab_nz_b f m
    unfold ab_nz
    split <;> omega
theorem ab_nz_0 (f : Int → Int) : ∀ m : Nat, ab_nz f m = 0 ↔ ∀ i, 0 ≤ i → i < (m : Int) → f i = 0
  | 0 => ⟨fun _ i h1 h2 => absurd h2 (by omega), fun _ => rfl⟩
  | m + 1 => by
    have ih := ab_nz_0 f m
    have hb := ab_nz_b f m
    unfold ab_nz
    constructor
    · intro h i h0 h1
      by_cases e : i = m
      · subst e; split at h
        · assumption
        · omega
      · exact ih.mp (by split at h <;> omega) i h0 (by omega)
    · intro h
      rw [if_pos (h m (by omega) (by omega)), ih.mpr (fun i h0 h1 => h i h0 (by omega))]
      rfl
theorem ab_cpy0 {α : Type} {f g : Int → α} {m : Int} : ab_cpy f g 0 0 m = ab_fi f g 0 m := by
  funext j
  unfold ab_cpy ab_fi
  rw [show (0 : Int) + (j - 0) = j by omega, show (0 : Int) + m = m by omega]
section V10
variable {h : ab_H} {n : Nat} {Q : ab_Q} {a b : Nat} {f : Int → Int} {hg : Int}
theorem sp_becomeZero {lv : Int} (h6 : 6 ≤ a) (hb6 : 6 ≤ b) (hab : a ≠ b) (h1 : h a = some (ab_vec b hg)) (h2 : h b = some (ab_ia 7 f))
    (q : Q none (ab_hs (ab_hs h a (ab_vec b lv)) b (ab_ia 7 (ab_fi (fun _ => 0) f 0 7))) n) : ab_G 62 0 [some (vr a), some (vi lv), none] [] h n (0, 0) Q := by
  simp only [s62_0, s62_1, s62_2, s62_5, s62_6, true_and, and_true, true_implies, Option.toList_some, Option.toList_none, List.nil_append, List.cons_append, List.map_nil, List.map_cons, List.sum_nil, List.sum_cons, Nat.zero_le, ab_nl_n, ab_nl_i, ab_nl_r, ab_nl_0, ab_cat_i, ab_cat_r, ab_cat_l, Nat.reduceAdd, Nat.reduceLeDiff, Nat.add_zero, Nat.zero_add, reduceIte, List.getElem?_cons_succ, List.getElem?_cons_zero, List.length_cons, List.length_nil, List.set_cons_zero, List.set_cons_succ, true_or, or_true, Classical.not_not, not_true_eq_false, not_false_eq_true, ab_01r, ab_01z, ab_01n, false_implies, ab_tt, Nat.reduceLT, Nat.reduceEqDiff, Int.reduceNeg, Int.reduceLT, Int.reduceLE, Int.add_zero, Int.zero_add, ab_fs, h1, h6, ab_fit, ab_tyf, tyX10]
  refine ab_lp 0 7 (fun i => [some (vr a), some (vi lv), some (vi i)]) (fun i => ab_hs (ab_hs h a (ab_vec b lv)) b (ab_ia 7 (ab_fi (fun _ => 0) f 0 i))) (by omega) rfl ?_ ?_ ?_
  · rw [ab_fi_0]; exact (ab_hs_id ((ab_hs_ne (Ne.symm hab)).trans h2)).symm
  · simp only [s62_7, s62_8, s62_10, s62_13, s62_14, s62_17, s62_18, s62_19, s62_20, s62_23, s62_26, true_and, and_true, true_implies, Option.toList_some, Option.toList_none, List.nil_append, List.cons_append, List.map_nil, List.map_cons, List.sum_nil, List.sum_cons, Nat.zero_le, ab_nl_n, ab_nl_i, ab_nl_r, ab_nl_0, ab_cat_i, ab_cat_r, ab_cat_l, Nat.reduceAdd, Nat.reduceLeDiff, Nat.add_zero, Nat.zero_add, reduceIte, List.getElem?_cons_succ, List.getElem?_cons_zero, List.length_cons, List.length_nil, List.set_cons_zero, List.set_cons_succ, true_or, or_true, Classical.not_not, not_true_eq_false, not_false_eq_true, ab_01r, ab_01z, ab_01n, false_implies, ab_tt, Nat.reduceLT, Nat.reduceEqDiff, Int.reduceNeg, Int.reduceLT, Int.reduceLE, Int.add_zero, Int.zero_add, q]
    omega
  · intro i h0 h9 ih
    have hn : ¬ 7 ≤ i := by omega
    have h97 : i < ((7 : Nat) : Int) := h9
    rw [s62_7]
    simp only [s62_8, s62_10, s62_13, s62_14, s62_17, s62_18, s62_19, s62_20, s62_23, s62_26, true_and, and_true, true_implies, Option.toList_some, Option.toList_none, List.nil_append, List.cons_append, List.map_nil, List.map_cons, List.sum_nil, List.sum_cons, Nat.zero_le, ab_nl_n, ab_nl_i, ab_nl_r, ab_nl_0, ab_cat_i, ab_cat_r, ab_cat_l, Nat.reduceAdd, Nat.reduceLeDiff, Nat.add_zero, Nat.zero_add, reduceIte, List.getElem?_cons_succ, List.getElem?_cons_zero, List.length_cons, List.length_nil, List.set_cons_zero, List.set_cons_succ, true_or, or_true, Classical.not_not, not_true_eq_false, not_false_eq_true, ab_01r, ab_01z, ab_01n, false_implies, ab_tt, Nat.reduceLT, Nat.reduceEqDiff, Int.reduceNeg, Int.reduceLT, Int.reduceLE, Int.add_zero, Int.zero_add, ab_fd, ab_as, ab_hs_self, ab_hs_ne hab, ab_hs_hs, h6, hb6, h0, h97, hn, ab_fi_s h0 rfl, ih]
    omega
/-- the vector at a (numbers at b) becomes the i-th basis vector -/
theorem sp_becomeBasis {lv i : Int} (h6 : 6 ≤ a) (hb6 : 6 ≤ b) (hab : a ≠ b) (h1 : h a = some (ab_vec b hg)) (h2 : h b = some (ab_ia 7 f)) (hi : 0 ≤ i ∧ i < 7)
    (q : Q none (ab_hs (ab_hs h a (ab_vec b lv)) b (ab_ia 7 (ab_ui (ab_fi (fun _ => 0) f 0 7) i 1))) n) : ab_G 63 0 [some (vr a), some (vi lv), some (vi i)] [] h n (0, 0) Q := by
  simp only [s63_0, s63_1, s63_2, true_and, and_true, true_implies, Option.toList_some, Option.toList_none, List.nil_append, List.cons_append, List.map_nil, List.map_cons, List.sum_nil, List.sum_cons, Nat.zero_le, ab_nl_n, ab_nl_i, ab_nl_r, ab_nl_0, ab_cat_i, ab_cat_r, ab_cat_l, Nat.reduceAdd, Nat.reduceLeDiff, Nat.add_zero, Nat.zero_add, reduceIte, List.getElem?_cons_succ, List.getElem?_cons_zero, List.length_cons, List.length_nil, List.set_cons_zero, List.set_cons_succ, true_or, or_true, Classical.not_not, not_true_eq_false, not_false_eq_true, ab_01r, ab_01z, ab_01n, false_implies, ab_tt, Nat.reduceLT, Nat.reduceEqDiff, Int.reduceNeg, Int.reduceLT, Int.reduceLE, Int.add_zero, Int.zero_add, h6, ab_vc, h1, ab_sv_10_25]
  refine sp_becomeZero h6 hb6 hab h1 h2 ?_
  have h97 : i < ((7 : Nat) : Int) := hi.2
  simp only [s63_5, s63_6, s63_9, s63_10, s63_11, s63_12, true_and, and_true, true_implies, Option.toList_some, Option.toList_none, List.nil_append, List.cons_append, List.map_nil, List.map_cons, List.sum_nil, List.sum_cons, Nat.zero_le, ab_nl_n, ab_nl_i, ab_nl_r, ab_nl_0, ab_cat_i, ab_cat_r, ab_cat_l, Nat.reduceAdd, Nat.reduceLeDiff, Nat.add_zero, Nat.zero_add, reduceIte, List.getElem?_cons_succ, List.getElem?_cons_zero, List.length_cons, List.length_nil, List.set_cons_zero, List.set_cons_succ, true_or, or_true, Classical.not_not, not_true_eq_false, not_false_eq_true, ab_01r, ab_01z, ab_01n, false_implies, ab_tt, Nat.reduceLT, Nat.reduceEqDiff, Int.reduceNeg, Int.reduceLT, Int.reduceLE, Int.add_zero, Int.zero_add, ab_fd, ab_as, ab_hs_self, ab_hs_ne hab, ab_hs_hs, h6, hb6, hi.1, h97, q]
theorem sp_multiply {k : Int} (h6 : 6 ≤ a) (hb6 : 6 ≤ b) (hab : a ≠ b) (h1 : h a = some (ab_vec b hg)) (h2 : h b = some (ab_ia 7 f)) (hk : 0 ≤ k ∧ k ≤ 100) (hf : ∀ i, 0 ≤ i → i < 7 → 0 ≤ f i ∧ f i ≤ 100)
    (q : Q none (ab_hs h b (ab_ia 7 (ab_fi (fun i => f i * k % 101) f 0 7))) n) : ab_G 65 0 [some (vr a), some (vi k), none] [] h n (0, 0) Q := by
  simp only [s65_0, s65_1, true_and, and_true, true_implies, Option.toList_some, Option.toList_none, List.nil_append, List.cons_append, List.map_nil, List.map_cons, List.sum_nil, List.sum_cons, Nat.zero_le, ab_nl_n, ab_nl_i, ab_nl_r, ab_nl_0, ab_cat_i, ab_cat_r, ab_cat_l, Nat.reduceAdd, Nat.reduceLeDiff, Nat.add_zero, Nat.zero_add, reduceIte, List.getElem?_cons_succ, List.getElem?_cons_zero, List.length_cons, List.length_nil, List.set_cons_zero, List.set_cons_succ, true_or, or_true, Classical.not_not, not_true_eq_false, not_false_eq_true, ab_01r, ab_01z, ab_01n, false_implies, ab_tt, Nat.reduceLT, Nat.reduceEqDiff, Int.reduceNeg, Int.reduceLT, Int.reduceLE, Int.add_zero, Int.zero_add]
  refine ab_lp 0 7 (fun i => [some (vr a), some (vi k), some (vi i)]) (fun i => ab_hs h b (ab_ia 7 (ab_fi (fun i => f i * k % 101) f 0 i))) (by omega) rfl ?_ ?_ ?_
  · rw [ab_fi_0]; exact (ab_hs_id h2).symm
  · simp only [s65_2, s65_3, s65_5, s65_8, s65_9, s65_12, s65_13, s65_14, s65_17, s65_18, s65_19, s65_20, s65_21, s65_23, s65_24, s65_25, s65_28, s65_31, true_and, and_true, true_implies, Option.toList_some, Option.toList_none, List.nil_append, List.cons_append, List.map_nil, List.map_cons, List.sum_nil, List.sum_cons, Nat.zero_le, ab_nl_n, ab_nl_i, ab_nl_r, ab_nl_0, ab_cat_i, ab_cat_r, ab_cat_l, Nat.reduceAdd, Nat.reduceLeDiff, Nat.add_zero, Nat.zero_add, reduceIte, List.getElem?_cons_succ, List.getElem?_cons_zero, List.length_cons, List.length_nil, List.set_cons_zero, List.set_cons_succ, true_or, or_true, Classical.not_not, not_true_eq_false, not_false_eq_true, ab_01r, ab_01z, ab_01n, false_implies, ab_tt, Nat.reduceLT, Nat.reduceEqDiff, Int.reduceNeg, Int.reduceLT, Int.reduceLE, Int.add_zero, Int.zero_add, q]
    omega
  · intro i h0 h9 ih
    have hn : ¬ 7 ≤ i := by omega
    have h97 : i < ((7 : Nat) : Int) := h9
    have hfi := hf i h0 h9
    have hm0 : 0 ≤ f i * k := Int.mul_nonneg hfi.1 hk.1
    have hm1 : f i * k ≤ 100 * 100 := Int.mul_le_mul hfi.2 hk.2 hk.1 (by omega)
    rw [s65_2]
    simp only [s65_3, s65_5, s65_8, s65_9, s65_12, s65_13, s65_14, s65_17, s65_18, s65_19, s65_20, s65_21, s65_23, s65_24, s65_25, s65_28, s65_31, true_and, and_true, true_implies, Option.toList_some, Option.toList_none, List.nil_append, List.cons_append, List.map_nil, List.map_cons, List.sum_nil, List.sum_cons, Nat.zero_le, ab_nl_n, ab_nl_i, ab_nl_r, ab_nl_0, ab_cat_i, ab_cat_r, ab_cat_l, Nat.reduceAdd, Nat.reduceLeDiff, Nat.add_zero, Nat.zero_add, reduceIte, List.getElem?_cons_succ, List.getElem?_cons_zero, List.length_cons, List.length_nil, List.set_cons_zero, List.set_cons_succ, true_or, or_true, Classical.not_not, not_true_eq_false, not_false_eq_true, ab_01r, ab_01z, ab_01n, false_implies, ab_tt, Nat.reduceLT, Nat.reduceEqDiff, Int.reduceNeg, Int.reduceLT, Int.reduceLE, Int.add_zero, Int.zero_add, ab_fd, ab_ai, ab_as, ab_hs_self, ab_hs_ne hab, ab_hs_hs, h1, h6, hb6, h0, h97, hn, ab_fi_hi (Int.le_refl i), ab_md hm0, ab_fi_s (g := fun i => f i * k % 101) h0 rfl, ih]
    omega
/-- the other one, k times, is added; the other one may be this one -/
theorem sp_addTimes {k hg2 : Int} {a2 b2 : Nat} {f2 : Int → Int} (h6 : 6 ≤ a) (hb6 : 6 ≤ b) (h62 : 6 ≤ a2) (hb62 : 6 ≤ b2) (hab : a ≠ b) (ha2b : a2 ≠ b) (h1 : h a = some (ab_vec b hg)) (h2 : h b = some (ab_ia 7 f)) (h3 : h a2 = some (ab_vec b2 hg2)) (h4 : h b2 = some (ab_ia 7 f2)) (hk : 0 ≤ k ∧ k ≤ 100)
    (hf : ∀ i, 0 ≤ i → i < 7 → 0 ≤ f i ∧ f i ≤ 100) (hf2 : ∀ i, 0 ≤ i → i < 7 → 0 ≤ f2 i ∧ f2 i ≤ 100)
    (q : Q none (ab_hs h b (ab_ia 7 (ab_fi (fun i => (f i + k * f2 i) % 101) f 0 7))) n) : ab_G 64 0 [some (vr a), some (vr a2), some (vi k), none] [] h n (0, 0) Q := by
  simp only [s64_0, s64_1, true_and, and_true, true_implies, Option.toList_some, Option.toList_none, List.nil_append, List.cons_append, List.map_nil, List.map_cons, List.sum_nil, List.sum_cons, Nat.zero_le, ab_nl_n, ab_nl_i, ab_nl_r, ab_nl_0, ab_cat_i, ab_cat_r, ab_cat_l, Nat.reduceAdd, Nat.reduceLeDiff, Nat.add_zero, Nat.zero_add, reduceIte, List.getElem?_cons_succ, List.getElem?_cons_zero, List.length_cons, List.length_nil, List.set_cons_zero, List.set_cons_succ, true_or, or_true, Classical.not_not, not_true_eq_false, not_false_eq_true, ab_01r, ab_01z, ab_01n, false_implies, ab_tt, Nat.reduceLT, Nat.reduceEqDiff, Int.reduceNeg, Int.reduceLT, Int.reduceLE, Int.add_zero, Int.zero_add]
  refine ab_lp 0 7 (fun i => [some (vr a), some (vr a2), some (vi k), some (vi i)]) (fun i => ab_hs h b (ab_ia 7 (ab_fi (fun i => (f i + k * f2 i) % 101) f 0 i))) (by omega) rfl ?_ ?_ ?_
  · rw [ab_fi_0]; exact (ab_hs_id h2).symm
  · simp only [s64_2, s64_3, s64_5, s64_8, s64_9, s64_12, s64_13, s64_14, s64_17, s64_18, s64_19, s64_20, s64_21, s64_24, s64_25, s64_26, s64_27, s64_28, s64_30, s64_31, s64_32, s64_35, s64_38, true_and, and_true, true_implies, Option.toList_some, Option.toList_none, List.nil_append, List.cons_append, List.map_nil, List.map_cons, List.sum_nil, List.sum_cons, Nat.zero_le, ab_nl_n, ab_nl_i, ab_nl_r, ab_nl_0, ab_cat_i, ab_cat_r, ab_cat_l, Nat.reduceAdd, Nat.reduceLeDiff, Nat.add_zero, Nat.zero_add, reduceIte, List.getElem?_cons_succ, List.getElem?_cons_zero, List.length_cons, List.length_nil, List.set_cons_zero, List.set_cons_succ, true_or, or_true, Classical.not_not, not_true_eq_false, not_false_eq_true, ab_01r, ab_01z, ab_01n, false_implies, ab_tt, Nat.reduceLT, Nat.reduceEqDiff, Int.reduceNeg, Int.reduceLT, Int.reduceLE, Int.add_zero, Int.zero_add, q]
    omega
  · intro i h0 h9 ih
    have hn : ¬ 7 ≤ i := by omega
    have h97 : i < ((7 : Nat) : Int) := h9
    have hfi := hf i h0 h9
    have hfi2 := hf2 i h0 h9
    have hm0 : 0 ≤ k * f2 i := Int.mul_nonneg hk.1 hfi2.1
    have hm1 : k * f2 i ≤ 100 * 100 := Int.mul_le_mul hk.2 hfi2.2 hfi2.1 (by omega)
    have hs0 : 0 ≤ f i + k * f2 i := by omega
    rw [s64_2]
    by_cases e : b2 = b
    · subst e
      have ef : f2 = f := by rw [h2] at h4; cases h4; rfl
      subst ef
      simp only [s64_3, s64_5, s64_8, s64_9, s64_12, s64_13, s64_14, s64_17, s64_18, s64_19, s64_20, s64_21, s64_24, s64_25, s64_26, s64_27, s64_28, s64_30, s64_31, s64_32, s64_35, s64_38, true_and, and_true, true_implies, Option.toList_some, Option.toList_none, List.nil_append, List.cons_append, List.map_nil, List.map_cons, List.sum_nil, List.sum_cons, Nat.zero_le, ab_nl_n, ab_nl_i, ab_nl_r, ab_nl_0, ab_cat_i, ab_cat_r, ab_cat_l, Nat.reduceAdd, Nat.reduceLeDiff, Nat.add_zero, Nat.zero_add, reduceIte, List.getElem?_cons_succ, List.getElem?_cons_zero, List.length_cons, List.length_nil, List.set_cons_zero, List.set_cons_succ, true_or, or_true, Classical.not_not, not_true_eq_false, not_false_eq_true, ab_01r, ab_01z, ab_01n, false_implies, ab_tt, Nat.reduceLT, Nat.reduceEqDiff, Int.reduceNeg, Int.reduceLT, Int.reduceLE, Int.add_zero, Int.zero_add, ab_fd, ab_ai, ab_as, ab_hs_self, ab_hs_ne hab, ab_hs_ne ha2b, ab_hs_hs, h1, h3, h6, hb6, h62, h0, h97, hn, ab_fi_hi (Int.le_refl i), ab_md hs0, ab_fi_s (g := fun i => (f2 i + k * f2 i) % 101) h0 rfl, ih]
      omega
    · simp only [s64_3, s64_5, s64_8, s64_9, s64_12, s64_13, s64_14, s64_17, s64_18, s64_19, s64_20, s64_21, s64_24, s64_25, s64_26, s64_27, s64_28, s64_30, s64_31, s64_32, s64_35, s64_38, true_and, and_true, true_implies, Option.toList_some, Option.toList_none, List.nil_append, List.cons_append, List.map_nil, List.map_cons, List.sum_nil, List.sum_cons, Nat.zero_le, ab_nl_n, ab_nl_i, ab_nl_r, ab_nl_0, ab_cat_i, ab_cat_r, ab_cat_l, Nat.reduceAdd, Nat.reduceLeDiff, Nat.add_zero, Nat.zero_add, reduceIte, List.getElem?_cons_succ, List.getElem?_cons_zero, List.length_cons, List.length_nil, List.set_cons_zero, List.set_cons_succ, true_or, or_true, Classical.not_not, not_true_eq_false, not_false_eq_true, ab_01r, ab_01z, ab_01n, false_implies, ab_tt, Nat.reduceLT, Nat.reduceEqDiff, Int.reduceNeg, Int.reduceLT, Int.reduceLE, Int.add_zero, Int.zero_add, ab_fd, ab_ai, ab_as, ab_hs_self, ab_hs_ne hab, ab_hs_ne ha2b, ab_hs_ne e, ab_hs_hs, h1, h3, h4, h6, hb6, h62, h0, h97, hn, ab_fi_hi (Int.le_refl i), ab_md hs0, ab_fi_s (g := fun i => (f i + k * f2 i) % 101) h0 rfl, ih]
      omega
theorem sp_filled (h6 : 6 ≤ a) (hb6 : 6 ≤ b) (h1 : h a = some (ab_vec b hg)) (h2 : h b = some (ab_ia 7 f)) (hf : ∀ i, 0 ≤ i → i < 7 → 0 ≤ f i ∧ f i ≤ 100)
    (q : Q (some (vi (ab_nz f 7))) h n) : ab_G 66 0 [some (vr a), none, none] [] h n (0, 0) Q := by
  simp only [s66_0, s66_1, s66_2, s66_3, true_and, and_true, true_implies, Option.toList_some, Option.toList_none, List.nil_append, List.cons_append, List.map_nil, List.map_cons, List.sum_nil, List.sum_cons, Nat.zero_le, ab_nl_n, ab_nl_i, ab_nl_r, ab_nl_0, ab_cat_i, ab_cat_r, ab_cat_l, Nat.reduceAdd, Nat.reduceLeDiff, Nat.add_zero, Nat.zero_add, reduceIte, List.getElem?_cons_succ, List.getElem?_cons_zero, List.length_cons, List.length_nil, List.set_cons_zero, List.set_cons_succ, true_or, or_true, Classical.not_not, not_true_eq_false, not_false_eq_true, ab_01r, ab_01z, ab_01n, false_implies, ab_tt, Nat.reduceLT, Nat.reduceEqDiff, Int.reduceNeg, Int.reduceLT, Int.reduceLE, Int.add_zero, Int.zero_add]
  refine ab_lp 0 7 (fun i => [some (vr a), some (vi (ab_nz f i.toNat)), some (vi i)]) (fun _ => h) (by omega) rfl rfl ?_ ?_
  · simp only [s66_4, s66_5, s66_7, s66_10, s66_11, s66_14, s66_15, s66_16, s66_19, s66_22, s66_25, s66_28, s66_29, true_and, and_true, true_implies, Option.toList_some, Option.toList_none, List.nil_append, List.cons_append, List.map_nil, List.map_cons, List.sum_nil, List.sum_cons, Nat.zero_le, ab_nl_n, ab_nl_i, ab_nl_r, ab_nl_0, ab_cat_i, ab_cat_r, ab_cat_l, Nat.reduceAdd, Nat.reduceLeDiff, Nat.add_zero, Nat.zero_add, reduceIte, List.getElem?_cons_succ, List.getElem?_cons_zero, List.length_cons, List.length_nil, List.set_cons_zero, List.set_cons_succ, true_or, or_true, Classical.not_not, not_true_eq_false, not_false_eq_true, ab_01r, ab_01z, ab_01n, false_implies, ab_tt, Nat.reduceLT, Nat.reduceEqDiff, Int.reduceNeg, Int.reduceLT, Int.reduceLE, Int.add_zero, Int.zero_add]
    exact ⟨by omega, by omega, q⟩
  · intro i h0 h9 ih
    have hn : ¬ 7 ≤ i := by omega
    have h97 : i < ((7 : Nat) : Int) := h9
    have hfi := hf i h0 h9
    have ei : (i + 1).toNat = i.toNat + 1 := by omega
    have ec : ((i.toNat : Nat) : Int) = i := Int.toNat_of_nonneg h0
    rw [ei] at ih
    simp only [ab_nz, ec] at ih
    rw [s66_4]
    by_cases hz : f i = 0
    · simp only [hz, true_and, and_true, true_implies, Option.toList_some, Option.toList_none, List.nil_append, List.cons_append, List.map_nil, List.map_cons, List.sum_nil, List.sum_cons, Nat.zero_le, ab_nl_n, ab_nl_i, ab_nl_r, ab_nl_0, ab_cat_i, ab_cat_r, ab_cat_l, Nat.reduceAdd, Nat.reduceLeDiff, Nat.add_zero, Nat.zero_add, reduceIte, List.getElem?_cons_succ, List.getElem?_cons_zero, List.length_cons, List.length_nil, List.set_cons_zero, List.set_cons_succ, true_or, or_true, Classical.not_not, not_true_eq_false, not_false_eq_true, ab_01r, ab_01z, ab_01n, false_implies, ab_tt, Nat.reduceLT, Nat.reduceEqDiff, Int.reduceNeg, Int.reduceLT, Int.reduceLE, Int.add_zero, Int.zero_add] at ih
      simp only [s66_5, s66_7, s66_10, s66_11, s66_14, s66_15, s66_16, s66_19, s66_22, s66_25, s66_28, s66_29, true_and, and_true, true_implies, Option.toList_some, Option.toList_none, List.nil_append, List.cons_append, List.map_nil, List.map_cons, List.sum_nil, List.sum_cons, Nat.zero_le, ab_nl_n, ab_nl_i, ab_nl_r, ab_nl_0, ab_cat_i, ab_cat_r, ab_cat_l, Nat.reduceAdd, Nat.reduceLeDiff, Nat.add_zero, Nat.zero_add, reduceIte, List.getElem?_cons_succ, List.getElem?_cons_zero, List.length_cons, List.length_nil, List.set_cons_zero, List.set_cons_succ, true_or, or_true, Classical.not_not, not_true_eq_false, not_false_eq_true, ab_01r, ab_01z, ab_01n, false_implies, ab_tt, Nat.reduceLT, Nat.reduceEqDiff, Int.reduceNeg, Int.reduceLT, Int.reduceLE, Int.add_zero, Int.zero_add, ab_fd, ab_ai, h1, h2, h6, hb6, h0, h97, hn, hz, ih]
      omega
    · simp only [hz, true_and, and_true, true_implies, Option.toList_some, Option.toList_none, List.nil_append, List.cons_append, List.map_nil, List.map_cons, List.sum_nil, List.sum_cons, Nat.zero_le, ab_nl_n, ab_nl_i, ab_nl_r, ab_nl_0, ab_cat_i, ab_cat_r, ab_cat_l, Nat.reduceAdd, Nat.reduceLeDiff, Nat.add_zero, Nat.zero_add, reduceIte, List.getElem?_cons_succ, List.getElem?_cons_zero, List.length_cons, List.length_nil, List.set_cons_zero, List.set_cons_succ, true_or, or_true, Classical.not_not, not_true_eq_false, not_false_eq_true, ab_01r, ab_01z, ab_01n, false_implies, ab_tt, Nat.reduceLT, Nat.reduceEqDiff, Int.reduceNeg, Int.reduceLT, Int.reduceLE, Int.add_zero, Int.zero_add] at ih
      simp only [s66_5, s66_7, s66_10, s66_11, s66_14, s66_15, s66_16, s66_19, s66_22, s66_25, s66_28, s66_29, true_and, and_true, true_implies, Option.toList_some, Option.toList_none, List.nil_append, List.cons_append, List.map_nil, List.map_cons, List.sum_nil, List.sum_cons, Nat.zero_le, ab_nl_n, ab_nl_i, ab_nl_r, ab_nl_0, ab_cat_i, ab_cat_r, ab_cat_l, Nat.reduceAdd, Nat.reduceLeDiff, Nat.add_zero, Nat.zero_add, reduceIte, List.getElem?_cons_succ, List.getElem?_cons_zero, List.length_cons, List.length_nil, List.set_cons_zero, List.set_cons_succ, true_or, or_true, Classical.not_not, not_true_eq_false, not_false_eq_true, ab_01r, ab_01z, ab_01n, false_implies, ab_tt, Nat.reduceLT, Nat.reduceEqDiff, Int.reduceNeg, Int.reduceLT, Int.reduceLE, Int.add_zero, Int.zero_add, ab_fd, ab_ai, h1, h2, h6, hb6, h0, h97, hn, hz, ih]
      omega
theorem sp_isZero (h6 : 6 ≤ a) (hb6 : 6 ≤ b) (h1 : h a = some (ab_vec b hg)) (h2 : h b = some (ab_ia 7 f)) (hf : ∀ i, 0 ≤ i → i < 7 → 0 ≤ f i ∧ f i ≤ 100)
    (q : Q (some (vi (if ab_nz f 7 = 0 then 1 else 0))) h n) : ab_G 67 0 [some (vr a)] [] h n (0, 0) Q := by
  simp only [s67_0, s67_1, true_and, and_true, true_implies, Option.toList_some, Option.toList_none, List.nil_append, List.cons_append, List.map_nil, List.map_cons, List.sum_nil, List.sum_cons, Nat.zero_le, ab_nl_n, ab_nl_i, ab_nl_r, ab_nl_0, ab_cat_i, ab_cat_r, ab_cat_l, Nat.reduceAdd, Nat.reduceLeDiff, Nat.add_zero, Nat.zero_add, reduceIte, List.getElem?_cons_succ, List.getElem?_cons_zero, List.length_cons, List.length_nil, List.set_cons_zero, List.set_cons_succ, true_or, or_true, Classical.not_not, not_true_eq_false, not_false_eq_true, ab_01r, ab_01z, ab_01n, false_implies, ab_tt, Nat.reduceLT, Nat.reduceEqDiff, Int.reduceNeg, Int.reduceLT, Int.reduceLE, Int.add_zero, Int.zero_add, h6, ab_vc, h1, ab_sv_10_29]
  refine sp_filled h6 hb6 h1 h2 hf ?_
  have hb := ab_nz_b f 7
  by_cases hz : ab_nz f 7 = 0
  · simp only [hz, true_and, and_true, true_implies, Option.toList_some, Option.toList_none, List.nil_append, List.cons_append, List.map_nil, List.map_cons, List.sum_nil, List.sum_cons, Nat.zero_le, ab_nl_n, ab_nl_i, ab_nl_r, ab_nl_0, ab_cat_i, ab_cat_r, ab_cat_l, Nat.reduceAdd, Nat.reduceLeDiff, Nat.add_zero, Nat.zero_add, reduceIte, List.getElem?_cons_succ, List.getElem?_cons_zero, List.length_cons, List.length_nil, List.set_cons_zero, List.set_cons_succ, true_or, or_true, Classical.not_not, not_true_eq_false, not_false_eq_true, ab_01r, ab_01z, ab_01n, false_implies, ab_tt, Nat.reduceLT, Nat.reduceEqDiff, Int.reduceNeg, Int.reduceLT, Int.reduceLE, Int.add_zero, Int.zero_add] at q
    simp only [s67_4, s67_7, s67_8, s67_11, s67_12, true_and, and_true, true_implies, Option.toList_some, Option.toList_none, List.nil_append, List.cons_append, List.map_nil, List.map_cons, List.sum_nil, List.sum_cons, Nat.zero_le, ab_nl_n, ab_nl_i, ab_nl_r, ab_nl_0, ab_cat_i, ab_cat_r, ab_cat_l, Nat.reduceAdd, Nat.reduceLeDiff, Nat.add_zero, Nat.zero_add, reduceIte, List.getElem?_cons_succ, List.getElem?_cons_zero, List.length_cons, List.length_nil, List.set_cons_zero, List.set_cons_succ, true_or, or_true, Classical.not_not, not_true_eq_false, not_false_eq_true, ab_01r, ab_01z, ab_01n, false_implies, ab_tt, Nat.reduceLT, Nat.reduceEqDiff, Int.reduceNeg, Int.reduceLT, Int.reduceLE, Int.add_zero, Int.zero_add, hz, q]
    omega
  · simp only [hz, true_and, and_true, true_implies, Option.toList_some, Option.toList_none, List.nil_append, List.cons_append, List.map_nil, List.map_cons, List.sum_nil, List.sum_cons, Nat.zero_le, ab_nl_n, ab_nl_i, ab_nl_r, ab_nl_0, ab_cat_i, ab_cat_r, ab_cat_l, Nat.reduceAdd, Nat.reduceLeDiff, Nat.add_zero, Nat.zero_add, reduceIte, List.getElem?_cons_succ, List.getElem?_cons_zero, List.length_cons, List.length_nil, List.set_cons_zero, List.set_cons_succ, true_or, or_true, Classical.not_not, not_true_eq_false, not_false_eq_true, ab_01r, ab_01z, ab_01n, false_implies, ab_tt, Nat.reduceLT, Nat.reduceEqDiff, Int.reduceNeg, Int.reduceLT, Int.reduceLE, Int.add_zero, Int.zero_add] at q
    simp only [s67_4, s67_7, s67_8, s67_11, s67_12, true_and, and_true, true_implies, Option.toList_some, Option.toList_none, List.nil_append, List.cons_append, List.map_nil, List.map_cons, List.sum_nil, List.sum_cons, Nat.zero_le, ab_nl_n, ab_nl_i, ab_nl_r, ab_nl_0, ab_cat_i, ab_cat_r, ab_cat_l, Nat.reduceAdd, Nat.reduceLeDiff, Nat.add_zero, Nat.zero_add, reduceIte, List.getElem?_cons_succ, List.getElem?_cons_zero, List.length_cons, List.length_nil, List.set_cons_zero, List.set_cons_succ, true_or, or_true, Classical.not_not, not_true_eq_false, not_false_eq_true, ab_01r, ab_01z, ab_01n, false_implies, ab_tt, Nat.reduceLT, Nat.reduceEqDiff, Int.reduceNeg, Int.reduceLT, Int.reduceLE, Int.add_zero, Int.zero_add, hz, q]
    omega
theorem sp_vecCopy {hg2 : Int} {a2 b2 : Nat} {f2 : Int → Int} (h6 : 6 ≤ a) (hb6 : 6 ≤ b) (h62 : 6 ≤ a2) (hb62 : 6 ≤ b2) (hab : a ≠ b) (ha2 : a2 ≠ a) (ha2b : a2 ≠ b) (hb2a : b2 ≠ a) (hb2b : b2 ≠ b) (h1 : h a = some (ab_vec b hg)) (h2 : h b = some (ab_ia 7 f)) (h3 : h a2 = some (ab_vec b2 hg2)) (h4 : h b2 = some (ab_ia 7 f2))
    (q : Q none (ab_hs (ab_hs h a (ab_vec b hg2)) b (ab_ia 7 (ab_fi f2 f 0 7))) n) : ab_G 61 0 [some (vr a), some (vr a2)] [] h n (0, 0) Q := by
  simp only [s61_0, s61_1, s61_2, s61_5, s61_8, s61_9, s61_12, s61_13, s61_14, s61_17, s61_18, true_and, and_true, true_implies, Option.toList_some, Option.toList_none, List.nil_append, List.cons_append, List.map_nil, List.map_cons, List.sum_nil, List.sum_cons, Nat.zero_le, ab_nl_n, ab_nl_i, ab_nl_r, ab_nl_0, ab_cat_i, ab_cat_r, ab_cat_l, Nat.reduceAdd, Nat.reduceLeDiff, Nat.add_zero, Nat.zero_add, reduceIte, List.getElem?_cons_succ, List.getElem?_cons_zero, List.length_cons, List.length_nil, List.set_cons_zero, List.set_cons_succ, true_or, or_true, Classical.not_not, not_true_eq_false, not_false_eq_true, ab_01r, ab_01z, ab_01n, false_implies, ab_tt, Nat.reduceLT, Nat.reduceEqDiff, Int.reduceNeg, Int.reduceLT, Int.reduceLE, Int.add_zero, Int.zero_add, ab_fd, ab_fs, ab_fit, ab_tyf, tyX10, h1, h3, h6, h62, ab_hs_ne ha2, ab_hs_self]
  refine s61_20 ⟨hb62, hb6, by decide, ?_⟩
  simp only [ab_cp, ab_hs_ne hb2a, ab_hs_ne (Ne.symm hab), h2, h4, true_and, and_true, true_implies, Option.toList_some, Option.toList_none, List.nil_append, List.cons_append, List.map_nil, List.map_cons, List.sum_nil, List.sum_cons, Nat.zero_le, ab_nl_n, ab_nl_i, ab_nl_r, ab_nl_0, ab_cat_i, ab_cat_r, ab_cat_l, Nat.reduceAdd, Nat.reduceLeDiff, Nat.add_zero, Nat.zero_add, reduceIte, List.getElem?_cons_succ, List.getElem?_cons_zero, List.length_cons, List.length_nil, List.set_cons_zero, List.set_cons_succ, true_or, or_true, Classical.not_not, not_true_eq_false, not_false_eq_true, ab_01r, ab_01z, ab_01n, false_implies, ab_tt, Nat.reduceLT, Nat.reduceEqDiff, Int.reduceNeg, Int.reduceLT, Int.reduceLE, Int.add_zero, Int.zero_add, ab_cpy0, s61_23, q]
  omega
end V10
