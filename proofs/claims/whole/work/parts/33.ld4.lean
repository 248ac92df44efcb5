/-! ===== Ladder: fillActs ===== -/
/-- the five kinds -/
def ab_knd (h : ab_H) : Prop := h 34 = some (.inr (.inr (.inr (5, 5, fun i => if 0 ≤ i ∧ i < 5 then some (35 + i.toNat) else none)))) ∧ h 35 = some (.inl (1, [])) ∧ h 36 = some (.inl (0, [])) ∧ h 37 = some (.inl (8, [])) ∧ h 38 = some (.inl (5, [])) ∧ h 39 = some (.inl (9, []))
theorem ab_knd_hs {h : ab_H} {a : Nat} {c : ab_C} (ha : a < 34 ∨ 39 < a) (hs : ab_knd h) : ab_knd (ab_hs h a c) := by
  obtain ⟨h1, h2, h3, h4, h5, h6⟩ := hs
  exact ⟨(ab_hs_ne (by omega)).trans h1, (ab_hs_ne (by omega)).trans h2, (ab_hs_ne (by omega)).trans h3, (ab_hs_ne (by omega)).trans h4, (ab_hs_ne (by omega)).trans h5, (ab_hs_ne (by omega)).trans h6⟩
theorem ab_knd_at {h : ab_H} {K : Int} (hs : ab_knd h) (hK : 0 ≤ K ∧ K ≤ 4) : h (35 + K.toNat) = some (.inl (ab_kc K, [])) := by
  obtain ⟨h1, h2, h3, h4, h5, h6⟩ := hs
  have hk : K = 0 ∨ K = 1 ∨ K = 2 ∨ K = 3 ∨ K = 4 := by omega
  rcases hk with rfl | rfl | rfl | rfl | rfl
  · exact h2
  · exact h3
  · exact h4
  · exact h5
  · exact h6
section LD4
variable {h : ab_H} {n : Nat} {Q : ab_Q} {top : Int} {A L : Int → Int}
theorem sp_kindOf {la : Nat} (h6 : 6 ≤ la) (h1 : h 33 = some (ab_ld 34 40 41 42 43 44 top)) (hk : ab_knd h) (h2 : h la = some (ab_ia 4 L)) (hL : ab_lok L) (q : Q (some (vr (35 + (L 0).toNat))) h n) : ab_G 17 0 [some (vr 33), some (vr la)] [] h n (0, 0) Q := by
  have l0 := hL.1
  have e1 : L 0 < ((5 : Nat) : Int) := by omega
  have e2 : 0 ≤ L 0 ∧ L 0 < 5 := by omega
  have e3 : (0 : Int) < ((4 : Nat) : Int) := by omega
  simp only [s17_0, s17_1, s17_4, s17_5, s17_6, s17_7, s17_8, true_and, and_true, true_implies, Option.toList_some, Option.toList_none, List.nil_append, List.cons_append, List.map_nil, List.map_cons, List.sum_nil, List.sum_cons, Nat.zero_le, ab_nl_n, ab_nl_i, ab_nl_r, ab_nl_0, ab_cat_i, ab_cat_r, ab_cat_l, Nat.reduceAdd, Nat.reduceLeDiff, Nat.add_zero, Nat.zero_add, reduceIte, List.getElem?_cons_succ, List.getElem?_cons_zero, List.length_cons, List.length_nil, List.set_cons_zero, List.set_cons_succ, true_or, or_true, Classical.not_not, not_true_eq_false, not_false_eq_true, ab_01r, ab_01z, ab_01n, false_implies, ab_tt, Nat.reduceLT, Nat.reduceEqDiff, Int.reduceNeg, Int.reduceLT, Int.reduceLE, Int.add_zero, Int.zero_add, List.append_nil, Int.reduceEq, ab_sum1, ab_ri_0, ab_ri_1, ab_ri_2, ab_ri_3, ab_ri_4, ab_ri_5, ab_ri_6, ab_ri_7, ab_ri_8, ab_ri_12, ab_ri_30, ab_ri_60, ab_ri_100, ab_ri_101, ab_ri_127, ab_ri_m1, ab_ri_m2, ab_ri_m3, ab_ri_m4, ab_ri_m5, ab_ri_m11, ab_ri_m13, ab_ri_m14, ab_ri_10, ab_fd, ab_ai, ab_ar, h1, h2, hk.1, e1, e2, e3, h6, Int.le_refl, Nat.reduceLeDiff, q]
/-- acts of one basis vector, at one level -/
theorem sp_fillActs {b nn t : Int} (hs : ab_stat h) (h1 : h 33 = some (ab_ld 34 40 41 42 43 44 top)) (hk : ab_knd h) (h2 : h 40 = some (ab_ia 4 L)) (h3 : h 41 = some (ab_ia 361 A)) (hL : ab_lok L) (hA : ab_a01 A) (hb : ab_bb b) (hnn : ab_LV b = nn) (ht : 0 ≤ t ∧ t ≤ 5)
    (hd : ∀ b' c', ab_bb b' → ab_bb c' → ab_LV b' < ab_LV b → ab_LV c' ≤ t → A (b' * 19 + c') = ab_AT L (b' * 19 + c'))
    (q : Q none (ab_hs h 41 (ab_ia 361 (ab_fi (ab_AT L) A (b * 19 + ab_START t) (b * 19 + ab_START t + ab_wd t)))) n) : ab_G 22 0 [some (vr 33), some (vi b), some (vi nn), some (vi t), none, none, none, none, none, none, none] [] h n (0, 0) Q := by
  have hw := ab_wd_eq ht.1 (by omega)
  have hlv := ab_lv_r hb
  obtain ⟨b0, b1⟩ := hb
  have hb : ab_bb b := ⟨b0, b1⟩
  have b19 : b < ((19 : Nat) : Int) := b1
  have hbr : ab_inR b = True := eq_true (by omega)
  have htr : ab_inR t = True := eq_true (by omega)
  have w7 : t < ((7 : Nat) : Int) := by omega
  have w8 : t + 1 < ((7 : Nat) : Int) := by omega
  have w9 : 0 ≤ t + 1 := by omega
  have H33 : ∀ c, ab_hs h 41 c 33 = some (ab_ld 34 40 41 42 43 44 top) := fun c => (ab_hs_ne (by decide)).trans h1
  have H40 : ∀ c, ab_hs h 41 c 40 = some (ab_ia 4 L) := fun c => (ab_hs_ne (by decide)).trans h2
  have HS : ∀ c, ab_stat (ab_hs h 41 c) := fun c => ab_stat_hs (by decide) hs
  have HK : ∀ c, ab_knd (ab_hs h 41 c) := fun c => ab_knd_hs (by decide) hk
  -- entries of this row
  have hAT : ∀ j, b * 19 + ab_START t ≤ j → j < b * 19 + ab_START t + ab_wd t → ab_AT L j = ab_asx L (ab_AT L) b (j - b * 19) ∧ ab_LV (j - b * 19) = t := by
    intro j j0 j1
    have e := ab_AT_eq (L := L) hb (c := j - b * 19) ⟨by omega, by omega⟩
    rw [show b * 19 + (j - b * 19) = j by omega] at e
    exact ⟨e, ab_lv_in ht.1 ht.2 (by omega) (by omega)⟩
  simp only [s22_0, s22_1, s22_2, s22_3, s22_5, s22_6, s22_8, s22_9, s22_11, s22_14, s22_15, s22_16, true_and, and_true, true_implies, Option.toList_some, Option.toList_none, List.nil_append, List.cons_append, List.map_nil, List.map_cons, List.sum_nil, List.sum_cons, Nat.zero_le, ab_nl_n, ab_nl_i, ab_nl_r, ab_nl_0, ab_cat_i, ab_cat_r, ab_cat_l, Nat.reduceAdd, Nat.reduceLeDiff, Nat.add_zero, Nat.zero_add, reduceIte, List.getElem?_cons_succ, List.getElem?_cons_zero, List.length_cons, List.length_nil, List.set_cons_zero, List.set_cons_succ, true_or, or_true, Classical.not_not, not_true_eq_false, not_false_eq_true, ab_01r, ab_01z, ab_01n, false_implies, ab_tt, Nat.reduceLT, Nat.reduceEqDiff, Int.reduceNeg, Int.reduceLT, Int.reduceLE, Int.add_zero, Int.zero_add, List.append_nil, Int.reduceEq, ab_sum1, ab_ri_0, ab_ri_1, ab_ri_2, ab_ri_3, ab_ri_4, ab_ri_5, ab_ri_6, ab_ri_7, ab_ri_8, ab_ri_12, ab_ri_30, ab_ri_60, ab_ri_100, ab_ri_101, ab_ri_127, ab_ri_m1, ab_ri_m2, ab_ri_m3, ab_ri_m4, ab_ri_m5, ab_ri_m11, ab_ri_m13, ab_ri_m14, ab_ri_10, ab_ai, hs.1, ht.1, w7]
  refine ab_lp 0 (ab_wd t) (fun i => [some (vr 33), some (vi b), some (vi nn), some (vi t), some (vi (nn - t)), some (vi (b * 19)), some (vi (ab_START t + i)), none, none, none, none]) (fun i => ab_hs h 41 (ab_ia 361 (ab_fi (fun _ => 0) A (b * 19 + ab_START t) (b * 19 + ab_START t + i)))) (by omega) (by rw [Int.add_zero]) (by rw [Int.add_zero, ab_fi_0, ab_hs_id h3]) ?_ ?_
  rotate_left
  · intro i i0 i9 ih
    have hn : ¬ ab_START t + ab_wd t ≤ ab_START t + i := by omega
    have e0 : 0 ≤ b * 19 + (ab_START t + i) := by omega
    have e1 : b * 19 + (ab_START t + i) < ((361 : Nat) : Int) := by omega
    have es : ab_ui (ab_fi (fun _ => (0 : Int)) A (b * 19 + ab_START t) (b * 19 + ab_START t + i)) (b * 19 + (ab_START t + i)) 0 = ab_fi (fun _ => 0) A (b * 19 + ab_START t) (b * 19 + ab_START t + i + 1) := by
      rw [show b * 19 + (ab_START t + i) = b * 19 + ab_START t + i by omega]
      exact ab_fi_s (by omega) rfl
    rw [show b * 19 + ab_START t + (i + 1) = b * 19 + ab_START t + i + 1 by omega, ← es, show ab_START t + (i + 1) = ab_START t + i + 1 by omega] at ih
    rw [s22_18]
    simp only [s22_20, s22_23, s22_24, s22_25, s22_26, s22_27, s22_30, s22_31, s22_34, s22_36, s22_38, s22_39, s22_40, s22_41, s22_44, true_and, and_true, true_implies, Option.toList_some, Option.toList_none, List.nil_append, List.cons_append, List.map_nil, List.map_cons, List.sum_nil, List.sum_cons, Nat.zero_le, ab_nl_n, ab_nl_i, ab_nl_r, ab_nl_0, ab_cat_i, ab_cat_r, ab_cat_l, Nat.reduceAdd, Nat.reduceLeDiff, Nat.add_zero, Nat.zero_add, reduceIte, List.getElem?_cons_succ, List.getElem?_cons_zero, List.length_cons, List.length_nil, List.set_cons_zero, List.set_cons_succ, true_or, or_true, Classical.not_not, not_true_eq_false, not_false_eq_true, ab_01r, ab_01z, ab_01n, false_implies, ab_tt, Nat.reduceLT, Nat.reduceEqDiff, Int.reduceNeg, Int.reduceLT, Int.reduceLE, Int.add_zero, Int.zero_add, List.append_nil, Int.reduceEq, ab_sum1, ab_ri_0, ab_ri_1, ab_ri_2, ab_ri_3, ab_ri_4, ab_ri_5, ab_ri_6, ab_ri_7, ab_ri_8, ab_ri_12, ab_ri_30, ab_ri_60, ab_ri_100, ab_ri_101, ab_ri_127, ab_ri_m1, ab_ri_m2, ab_ri_m3, ab_ri_m4, ab_ri_m5, ab_ri_m11, ab_ri_m13, ab_ri_m14, ab_ri_10, ab_fd, ab_ai, ab_as, (HS _).1, H33, ab_hs_self, ab_hs_hs, w8, w9, hw.1, hn, e0, e1, ih] <;> omega
  have hA1 : ab_a01 (ab_fi (fun _ => (0 : Int)) A (b * 19 + ab_START t) (b * 19 + ab_START t + ab_wd t)) := ab_fi_a01 (fun _ => ⟨Int.le_refl 0, show (0 : Int) ≤ 100 by decide⟩) hA
  rw [s22_18]
  have n0 : ¬ ab_START t + ab_wd t < ab_START t + ab_wd t := Int.lt_irrefl _
  by_cases c1 : b = 0
  · subst c1
    have el : ab_LV 0 = 0 := ab_lv_0
    have e0 : 0 ≤ ab_START t := by omega
    have e1 : ab_START t < ((361 : Nat) : Int) := by omega
    have e2 : (2 : Int) < ((4 : Nat) : Int) := by omega
    have e3 : (0 : Int) ≤ 2 := by omega
    have fin : ∀ x, x = (if t = 0 then L 2 else 1) → ab_ui (ab_fi (fun _ => (0 : Int)) A (0 * 19 + ab_START t) (0 * 19 + ab_START t + ab_wd t)) (ab_START t) x = ab_fi (ab_AT L) A (0 * 19 + ab_START t) (0 * 19 + ab_START t + ab_wd t) := by
      intro x hx
      refine ab_fi_ext (fun j j0 j1 => ?_) (fun j hj => ?_)
      · obtain ⟨h1, h2⟩ := hAT j j0 j1
        rw [h1, ab_asx, if_pos rfl, h2]
        by_cases e : j = ab_START t
        · rw [e, ab_ui_at, if_pos (by omega), hx]
        · rw [ab_ui_ne e, ab_fi_lo ⟨j0, j1⟩, if_neg (by omega)]
      · rw [ab_ui_ne (by omega), ab_fi_no hj]
    by_cases c2 : t = 0
    · have fin := fin (L 2) (by rw [if_pos c2])
      simp only [s22_20, s22_23, s22_24, s22_25, s22_26, s22_27, s22_47, s22_48, s22_51, s22_52, s22_55, s22_58, s22_59, s22_60, s22_61, s22_64, s22_65, s22_68, s22_69, s22_70, s22_73, s22_74, s22_75, true_and, and_true, true_implies, Option.toList_some, Option.toList_none, List.nil_append, List.cons_append, List.map_nil, List.map_cons, List.sum_nil, List.sum_cons, Nat.zero_le, ab_nl_n, ab_nl_i, ab_nl_r, ab_nl_0, ab_cat_i, ab_cat_r, ab_cat_l, Nat.reduceAdd, Nat.reduceLeDiff, Nat.add_zero, Nat.zero_add, reduceIte, List.getElem?_cons_succ, List.getElem?_cons_zero, List.length_cons, List.length_nil, List.set_cons_zero, List.set_cons_succ, true_or, or_true, Classical.not_not, not_true_eq_false, not_false_eq_true, ab_01r, ab_01z, ab_01n, false_implies, ab_tt, Nat.reduceLT, Nat.reduceEqDiff, Int.reduceNeg, Int.reduceLT, Int.reduceLE, Int.add_zero, Int.zero_add, List.append_nil, Int.reduceEq, ab_sum1, ab_ri_0, ab_ri_1, ab_ri_2, ab_ri_3, ab_ri_4, ab_ri_5, ab_ri_6, ab_ri_7, ab_ri_8, ab_ri_12, ab_ri_30, ab_ri_60, ab_ri_100, ab_ri_101, ab_ri_127, ab_ri_m1, ab_ri_m2, ab_ri_m3, ab_ri_m4, ab_ri_m5, ab_ri_m11, ab_ri_m13, ab_ri_m14, ab_ri_10, ab_fd, ab_ai, ab_as, (HS _).1, H33, H40, ab_hs_self, ab_hs_hs, w7, w8, w9, hw.1, e0, e1, e2, e3, ht.1, eq_true c2, htr, Int.le_refl, Int.lt_irrefl, fin, q] <;> omega
    · have fin := fin 1 (by rw [if_neg c2])
      simp only [s22_20, s22_23, s22_24, s22_25, s22_26, s22_27, s22_47, s22_48, s22_51, s22_52, s22_55, s22_58, s22_59, s22_60, s22_61, s22_64, s22_65, s22_68, s22_69, s22_70, s22_73, s22_74, s22_75, true_and, and_true, true_implies, Option.toList_some, Option.toList_none, List.nil_append, List.cons_append, List.map_nil, List.map_cons, List.sum_nil, List.sum_cons, Nat.zero_le, ab_nl_n, ab_nl_i, ab_nl_r, ab_nl_0, ab_cat_i, ab_cat_r, ab_cat_l, Nat.reduceAdd, Nat.reduceLeDiff, Nat.add_zero, Nat.zero_add, reduceIte, List.getElem?_cons_succ, List.getElem?_cons_zero, List.length_cons, List.length_nil, List.set_cons_zero, List.set_cons_succ, true_or, or_true, Classical.not_not, not_true_eq_false, not_false_eq_true, ab_01r, ab_01z, ab_01n, false_implies, ab_tt, Nat.reduceLT, Nat.reduceEqDiff, Int.reduceNeg, Int.reduceLT, Int.reduceLE, Int.add_zero, Int.zero_add, List.append_nil, Int.reduceEq, ab_sum1, ab_ri_0, ab_ri_1, ab_ri_2, ab_ri_3, ab_ri_4, ab_ri_5, ab_ri_6, ab_ri_7, ab_ri_8, ab_ri_12, ab_ri_30, ab_ri_60, ab_ri_100, ab_ri_101, ab_ri_127, ab_ri_m1, ab_ri_m2, ab_ri_m3, ab_ri_m4, ab_ri_m5, ab_ri_m11, ab_ri_m13, ab_ri_m14, ab_ri_10, ab_fd, ab_ai, ab_as, (HS _).1, H33, H40, ab_hs_self, ab_hs_hs, w7, w8, w9, hw.1, e0, e1, ht.1, c2, htr, Int.le_refl, Int.lt_irrefl, fin, q] <;> omega
  · obtain ⟨k1, k2, k3, k4, k5, k6⟩ := ab_lv_k hb c1
    have hkr : ab_inR (ab_FIRST b) = True := eq_true (by omega)
    by_cases c2 : ab_FIRST b ≤ -(nn - t)
    · have hj := ab_jn_r (k := -(nn - t)) (rest := b) (st := ab_START t) (ab_wd t).toNat
      have hj1 : ab_jn (-(nn - t)) b (ab_START t) (ab_wd t).toNat < ab_START t + ab_wd t := by
        -- the partition that is joined is there
        have key := ab_tb_all (P := fun b => ∀ t : Fin 6, b ≠ 0 → ab_FIRST b ≤ -(ab_LV b - t.val) → ab_jn (-(ab_LV b - t.val)) b (ab_START t.val) (ab_wd t.val).toNat < ab_START t.val + ab_wd t.val) (m := 19) (by decide +kernel) b0 b1 ⟨t.toNat, by omega⟩ c1
        simp only [Int.toNat_of_nonneg ht.1, hnn] at key
        exact key c2
      have cn : ¬ -(nn - t) < ab_FIRST b := by omega
      have fin : ab_ui (ab_fi (fun _ => (0 : Int)) A (b * 19 + ab_START t) (b * 19 + ab_START t + ab_wd t)) (b * 19 + ab_jn (-(nn - t)) b (ab_START t) (ab_wd t).toNat) 1 = ab_fi (ab_AT L) A (b * 19 + ab_START t) (b * 19 + ab_START t + ab_wd t) := by
        refine ab_fi_ext (fun j j0 j1 => ?_) (fun j hj => ?_)
        · obtain ⟨h1, h2⟩ := hAT j j0 j1
          rw [h1, ab_asx, if_neg c1, h2, hnn, if_pos c2]
          by_cases e : j = b * 19 + ab_jn (-(nn - t)) b (ab_START t) (ab_wd t).toNat
          · rw [e, ab_ui_at, if_pos (by omega)]
          · rw [ab_ui_ne e, ab_fi_lo ⟨j0, j1⟩, if_neg (by omega)]
        · rw [ab_ui_ne (by omega), ab_fi_no hj]
      have e0 : 0 ≤ b * 19 + ab_jn (-(nn - t)) b (ab_START t) (ab_wd t).toNat := by omega
      have e1 : b * 19 + ab_jn (-(nn - t)) b (ab_START t) (ab_wd t).toNat < ((361 : Nat) : Int) := by omega
      simp only [s22_20, s22_23, s22_24, s22_25, s22_26, s22_27, s22_47, s22_48, s22_51, s22_52, s22_55, s22_58, s22_59, s22_60, s22_61, s22_64, s22_65, s22_68, s22_69, s22_70, s22_73, s22_74, s22_75, s22_76, s22_79, s22_80, s22_81, s22_83, s22_85, s22_86, s22_88, s22_91, s22_92, s22_95, s22_97, s22_99, s22_100, s22_101, s22_102, true_and, and_true, true_implies, Option.toList_some, Option.toList_none, List.nil_append, List.cons_append, List.map_nil, List.map_cons, List.sum_nil, List.sum_cons, Nat.zero_le, ab_nl_n, ab_nl_i, ab_nl_r, ab_nl_0, ab_cat_i, ab_cat_r, ab_cat_l, Nat.reduceAdd, Nat.reduceLeDiff, Nat.add_zero, Nat.zero_add, reduceIte, List.getElem?_cons_succ, List.getElem?_cons_zero, List.length_cons, List.length_nil, List.set_cons_zero, List.set_cons_succ, true_or, or_true, Classical.not_not, not_true_eq_false, not_false_eq_true, ab_01r, ab_01z, ab_01n, false_implies, ab_tt, Nat.reduceLT, Nat.reduceEqDiff, Int.reduceNeg, Int.reduceLT, Int.reduceLE, Int.add_zero, Int.zero_add, List.append_nil, Int.reduceEq, ab_sum1, ab_ri_0, ab_ri_1, ab_ri_2, ab_ri_3, ab_ri_4, ab_ri_5, ab_ri_6, ab_ri_7, ab_ri_8, ab_ri_12, ab_ri_30, ab_ri_60, ab_ri_100, ab_ri_101, ab_ri_127, ab_ri_m1, ab_ri_m2, ab_ri_m3, ab_ri_m4, ab_ri_m5, ab_ri_m11, ab_ri_m13, ab_ri_m14, ab_ri_10, ab_fd, ab_ai, (HS _).1, (HS _).2.2.2.1, H33, w8, w9, hw.1, Int.le_refl, n0, c1, hbr, hkr, b0, b19, c2, cn]
      (repeat refine And.intro (by omega) ?_)
      refine sp_joined (HS _) (by omega) (by omega) ht ?_
      simp only [s22_105, s22_106, s22_107, s22_108, true_and, and_true, true_implies, Option.toList_some, Option.toList_none, List.nil_append, List.cons_append, List.map_nil, List.map_cons, List.sum_nil, List.sum_cons, Nat.zero_le, ab_nl_n, ab_nl_i, ab_nl_r, ab_nl_0, ab_cat_i, ab_cat_r, ab_cat_l, Nat.reduceAdd, Nat.reduceLeDiff, Nat.add_zero, Nat.zero_add, reduceIte, List.getElem?_cons_succ, List.getElem?_cons_zero, List.length_cons, List.length_nil, List.set_cons_zero, List.set_cons_succ, true_or, or_true, Classical.not_not, not_true_eq_false, not_false_eq_true, ab_01r, ab_01z, ab_01n, false_implies, ab_tt, Nat.reduceLT, Nat.reduceEqDiff, Int.reduceNeg, Int.reduceLT, Int.reduceLE, Int.add_zero, Int.zero_add, List.append_nil, Int.reduceEq, ab_sum1, ab_ri_0, ab_ri_1, ab_ri_2, ab_ri_3, ab_ri_4, ab_ri_5, ab_ri_6, ab_ri_7, ab_ri_8, ab_ri_12, ab_ri_30, ab_ri_60, ab_ri_100, ab_ri_101, ab_ri_127, ab_ri_m1, ab_ri_m2, ab_ri_m3, ab_ri_m4, ab_ri_m5, ab_ri_m11, ab_ri_m13, ab_ri_m14, ab_ri_10, ab_as, ab_hs_self, ab_hs_hs, e0, e1, fin, q]
    · have cn : -(nn - t) < ab_FIRST b := by omega
      simp only [s22_20, s22_23, s22_24, s22_25, s22_26, s22_27, s22_47, s22_48, s22_51, s22_52, s22_55, s22_58, s22_59, s22_60, s22_61, s22_64, s22_65, s22_68, s22_69, s22_70, s22_73, s22_74, s22_75, s22_76, s22_79, s22_80, s22_81, s22_83, s22_85, s22_86, s22_88, s22_91, s22_92, s22_95, s22_97, s22_99, s22_100, s22_101, s22_102, s22_105, s22_106, s22_107, s22_108, s22_109, s22_112, s22_113, s22_114, s22_116, s22_117, s22_118, s22_121, true_and, and_true, true_implies, Option.toList_some, Option.toList_none, List.nil_append, List.cons_append, List.map_nil, List.map_cons, List.sum_nil, List.sum_cons, Nat.zero_le, ab_nl_n, ab_nl_i, ab_nl_r, ab_nl_0, ab_cat_i, ab_cat_r, ab_cat_l, Nat.reduceAdd, Nat.reduceLeDiff, Nat.add_zero, Nat.zero_add, reduceIte, List.getElem?_cons_succ, List.getElem?_cons_zero, List.length_cons, List.length_nil, List.set_cons_zero, List.set_cons_succ, true_or, or_true, Classical.not_not, not_true_eq_false, not_false_eq_true, ab_01r, ab_01z, ab_01n, false_implies, ab_tt, Nat.reduceLT, Nat.reduceEqDiff, Int.reduceNeg, Int.reduceLT, Int.reduceLE, Int.add_zero, Int.zero_add, List.append_nil, Int.reduceEq, ab_sum1, ab_ri_0, ab_ri_1, ab_ri_2, ab_ri_3, ab_ri_4, ab_ri_5, ab_ri_6, ab_ri_7, ab_ri_8, ab_ri_12, ab_ri_30, ab_ri_60, ab_ri_100, ab_ri_101, ab_ri_127, ab_ri_m1, ab_ri_m2, ab_ri_m3, ab_ri_m4, ab_ri_m5, ab_ri_m11, ab_ri_m13, ab_ri_m14, ab_ri_10, ab_fd, ab_ai, ab_vc, ab_sv_3_85, ab_sv_3_93, ab_sv_3_96, (HS _).1, (HS _).2.2.1, (HS _).2.2.2.1, H33, w8, w9, hw.1, Int.le_refl, n0, c1, hbr, hkr, b0, b19, c2, cn]
      (repeat refine And.intro (by omega) ?_)
      refine sp_kindOf (by decide) (H33 _) (HK _) (H40 _) hL ?_
      simp only [s22_124, s22_126, s22_128, s22_130, s22_132, true_and, and_true, true_implies, Option.toList_some, Option.toList_none, List.nil_append, List.cons_append, List.map_nil, List.map_cons, List.sum_nil, List.sum_cons, Nat.zero_le, ab_nl_n, ab_nl_i, ab_nl_r, ab_nl_0, ab_cat_i, ab_cat_r, ab_cat_l, Nat.reduceAdd, Nat.reduceLeDiff, Nat.add_zero, Nat.zero_add, reduceIte, List.getElem?_cons_succ, List.getElem?_cons_zero, List.length_cons, List.length_nil, List.set_cons_zero, List.set_cons_succ, true_or, or_true, Classical.not_not, not_true_eq_false, not_false_eq_true, ab_01r, ab_01z, ab_01n, false_implies, ab_tt, Nat.reduceLT, Nat.reduceEqDiff, Int.reduceNeg, Int.reduceLT, Int.reduceLE, Int.add_zero, Int.zero_add, List.append_nil, Int.reduceEq, ab_sum1, ab_ri_0, ab_ri_1, ab_ri_2, ab_ri_3, ab_ri_4, ab_ri_5, ab_ri_6, ab_ri_7, ab_ri_8, ab_ri_12, ab_ri_30, ab_ri_60, ab_ri_100, ab_ri_101, ab_ri_127, ab_ri_m1, ab_ri_m2, ab_ri_m3, ab_ri_m4, ab_ri_m5, ab_ri_m11, ab_ri_m13, ab_ri_m14, ab_ri_10]
      refine cs_slope_fillActs hL.1 (ab_knd_at (HK _) hL.1) (by omega) (by decide) (by omega) (by omega) (by omega) (by omega) ?_
      simp only [s22_136, s22_138, s22_141, s22_142, s22_143, true_and, and_true, true_implies, Option.toList_some, Option.toList_none, List.nil_append, List.cons_append, List.map_nil, List.map_cons, List.sum_nil, List.sum_cons, Nat.zero_le, ab_nl_n, ab_nl_i, ab_nl_r, ab_nl_0, ab_cat_i, ab_cat_r, ab_cat_l, Nat.reduceAdd, Nat.reduceLeDiff, Nat.add_zero, Nat.zero_add, reduceIte, List.getElem?_cons_succ, List.getElem?_cons_zero, List.length_cons, List.length_nil, List.set_cons_zero, List.set_cons_succ, true_or, or_true, Classical.not_not, not_true_eq_false, not_false_eq_true, ab_01r, ab_01z, ab_01n, false_implies, ab_tt, Nat.reduceLT, Nat.reduceEqDiff, Int.reduceNeg, Int.reduceLT, Int.reduceLE, Int.add_zero, Int.zero_add, List.append_nil, Int.reduceEq, ab_sum1, ab_ri_0, ab_ri_1, ab_ri_2, ab_ri_3, ab_ri_4, ab_ri_5, ab_ri_6, ab_ri_7, ab_ri_8, ab_ri_12, ab_ri_30, ab_ri_60, ab_ri_100, ab_ri_101, ab_ri_127, ab_ri_m1, ab_ri_m2, ab_ri_m3, ab_ri_m4, ab_ri_m5, ab_ri_m11, ab_ri_m13, ab_ri_m14, ab_ri_10, ab_ai, (HS _).1, ht.1, w7]
      have hsl := ab_sl_r (K := L 0) (m := nn - t) (n := -ab_FIRST b) (by omega) (by omega) (by omega) (by omega)
      have hout : ∀ j, ¬ (b * 19 + ab_START t ≤ j ∧ j < b * 19 + ab_START t + ab_wd t) → ab_fi (fun _ => (0 : Int)) A (b * 19 + ab_START t) (b * 19 + ab_START t + ab_wd t) j = A j := fun j hj => ab_fi_no hj
      revert hA1 hout
      generalize ab_fi (fun _ => (0 : Int)) A (b * 19 + ab_START t) (b * 19 + ab_START t + ab_wd t) = A1
      intro hA1 hout
      generalize hse : ab_slp (L 0) (nn - t) (-ab_FIRST b) = sl at hsl
      refine ab_lp 0 (ab_wd t) (fun i => [some (vr 33), some (vi b), some (vi nn), some (vi t), some (vi (nn - t)), some (vi (b * 19)), some (vi (ab_FIRST b)), some (vi (ab_REST b)), some (vr (35 + (L 0).toNat)), some (vi sl), some (vi (ab_START t + i))]) (fun i => ab_hs h 41 (ab_ia 361 (ab_fi (fun j => ab_asy L (ab_AT L) b (j - b * 19)) A1 (b * 19 + ab_START t) (b * 19 + ab_START t + i)))) (by omega) (by rw [Int.add_zero]) (by rw [Int.add_zero, ab_fi_0]) ?_ ?_
      rotate_left
      · intro i i0 i9 ih
        have ni : ¬ ab_START t + ab_wd t ≤ ab_START t + i := by omega
        have bi : ab_bb (ab_START t + i) := ⟨by omega, by omega⟩
        have li := ab_lv_at ht.1 ht.2 i0 i9
        have hT : ab_a01 (ab_fi (fun j => ab_asy L (ab_AT L) b (j - b * 19)) A1 (b * 19 + ab_START t) (b * 19 + ab_START t + i)) := ab_fi_a01 (fun _ => ab_asy_r) hA1
        have hD : ∀ b' c', ab_bb b' → ab_bb c' → ab_LV b' < ab_LV b → ab_LV c' ≤ ab_LV (ab_START t + i) → ab_fi (fun j => ab_asy L (ab_AT L) b (j - b * 19)) A1 (b * 19 + ab_START t) (b * 19 + ab_START t + i) (b' * 19 + c') = ab_AT L (b' * 19 + c') := by
          intro b' c' hb' hc' h1 h2
          have nb : b' ≠ b := fun z => by rw [z] at h1; omega
          rw [ab_fi_no (by omega), hout _ (by omega)]
          exact hd b' c' hb' hc' h1 (by omega)
        have ev := ab_asy_cg (L := L) hb bi c1 (by rw [hnn, li]; exact c2) hD
        have hT' : ∀ j, 0 ≤ j → j < 361 → ab_inR (ab_fi (fun j => ab_asy L (ab_AT L) b (j - b * 19)) A1 (b * 19 + ab_START t) (b * 19 + ab_START t + i) j) := fun j k0 k1 => by have := hT j k0 k1; omega
        have es := ab_fi_s (g := fun j => ab_asy L (ab_AT L) b (j - b * 19)) (f := A1) (a := b * 19 + ab_START t) (i := b * 19 + ab_START t + i) (x := ab_asy L (ab_AT L) b (ab_START t + i)) (by omega) (by rw [show b * 19 + ab_START t + i - b * 19 = ab_START t + i by omega])
        rw [show b * 19 + ab_START t + (i + 1) = b * 19 + ab_START t + i + 1 by omega, ← es, show ab_START t + (i + 1) = ab_START t + i + 1 by omega, ← ev, ab_asy, li, hnn, hse] at ih
        revert ih hT hT'
        generalize ab_fi (fun j => ab_asy L (ab_AT L) b (j - b * 19)) A1 (b * 19 + ab_START t) (b * 19 + ab_START t + i) = T
        intro ih hT hT'
        have bx : 0 ≤ ab_exd T (ab_REST b) (t - ab_FIRST b) (ab_START t + i) ∧ ab_exd T (ab_REST b) (t - ab_FIRST b) (ab_START t + i) ≤ 70000 := by
          unfold ab_exd
          by_cases z : 0 ≤ t - ab_FIRST b
          · rw [if_pos z]
            have hv := ab_wd_eq z (by omega)
            have := ab_exs_r hT k5 bi (s := ab_START (t - ab_FIRST b)) (by omega) (ab_wd (t - ab_FIRST b)).toNat (by omega)
            omega
          · rw [if_neg z]; omega
        have tm := hT (ab_REST b * 19 + (ab_START t + i)) (by omega) (by omega)
        have bs := ab_mulb (B := 10) tm.1 tm.2 (by omega) hsl.2
        rw [Int.mul_comm (T (ab_REST b * 19 + (ab_START t + i))) sl] at bs
        have hmr : ab_inR (ab_exd T (ab_REST b) (t - ab_FIRST b) (ab_START t + i) + sl * T (ab_REST b * 19 + (ab_START t + i))) := by omega
        have e0 : 0 ≤ b * 19 + (ab_START t + i) := by omega
        have e1 : b * 19 + (ab_START t + i) < ((361 : Nat) : Int) := by omega
        rw [s22_145]
        simp only [s22_147, s22_150, s22_151, s22_152, s22_153, s22_154, s22_157, s22_158, s22_161, s22_163, s22_165, s22_166, s22_167, s22_169, s22_170, s22_172, s22_173, s22_175, true_and, and_true, true_implies, Option.toList_some, Option.toList_none, List.nil_append, List.cons_append, List.map_nil, List.map_cons, List.sum_nil, List.sum_cons, Nat.zero_le, ab_nl_n, ab_nl_i, ab_nl_r, ab_nl_0, ab_cat_i, ab_cat_r, ab_cat_l, Nat.reduceAdd, Nat.reduceLeDiff, Nat.add_zero, Nat.zero_add, reduceIte, List.getElem?_cons_succ, List.getElem?_cons_zero, List.length_cons, List.length_nil, List.set_cons_zero, List.set_cons_succ, true_or, or_true, Classical.not_not, not_true_eq_false, not_false_eq_true, ab_01r, ab_01z, ab_01n, false_implies, ab_tt, Nat.reduceLT, Nat.reduceEqDiff, Int.reduceNeg, Int.reduceLT, Int.reduceLE, Int.add_zero, Int.zero_add, List.append_nil, Int.reduceEq, ab_sum1, ab_ri_0, ab_ri_1, ab_ri_2, ab_ri_3, ab_ri_4, ab_ri_5, ab_ri_6, ab_ri_7, ab_ri_8, ab_ri_12, ab_ri_30, ab_ri_60, ab_ri_100, ab_ri_101, ab_ri_127, ab_ri_m1, ab_ri_m2, ab_ri_m3, ab_ri_m4, ab_ri_m5, ab_ri_m11, ab_ri_m13, ab_ri_m14, ab_ri_10, ab_fd, ab_ai, ab_vc, ab_sv_3_85, ab_sv_3_93, ab_sv_3_96, (HS _).1, H33, w8, w9, hw.1, ni]
        (repeat refine And.intro (by omega) ?_)
        refine sp_exchanged (by decide) (by decide) (H33 _) ab_hs_self (HS _) hT k5 bi (by omega) ?_
        rw [show b * 19 + ab_START t + i = b * 19 + (ab_START t + i) by omega] at ih
        simp only [s22_178, s22_180, s22_181, s22_183, s22_185, s22_188, s22_189, s22_190, s22_193, s22_194, s22_197, true_and, and_true, true_implies, Option.toList_some, Option.toList_none, List.nil_append, List.cons_append, List.map_nil, List.map_cons, List.sum_nil, List.sum_cons, Nat.zero_le, ab_nl_n, ab_nl_i, ab_nl_r, ab_nl_0, ab_cat_i, ab_cat_r, ab_cat_l, Nat.reduceAdd, Nat.reduceLeDiff, Nat.add_zero, Nat.zero_add, reduceIte, List.getElem?_cons_succ, List.getElem?_cons_zero, List.length_cons, List.length_nil, List.set_cons_zero, List.set_cons_succ, true_or, or_true, Classical.not_not, not_true_eq_false, not_false_eq_true, ab_01r, ab_01z, ab_01n, false_implies, ab_tt, Nat.reduceLT, Nat.reduceEqDiff, Int.reduceNeg, Int.reduceLT, Int.reduceLE, Int.add_zero, Int.zero_add, List.append_nil, Int.reduceEq, ab_sum1, ab_ri_0, ab_ri_1, ab_ri_2, ab_ri_3, ab_ri_4, ab_ri_5, ab_ri_6, ab_ri_7, ab_ri_8, ab_ri_12, ab_ri_30, ab_ri_60, ab_ri_100, ab_ri_101, ab_ri_127, ab_ri_m1, ab_ri_m2, ab_ri_m3, ab_ri_m4, ab_ri_m5, ab_ri_m11, ab_ri_m13, ab_ri_m14, ab_ri_10, ab_as, ab_vc, ab_sv_3_85, ab_sv_3_93, ab_sv_3_96, H33, ab_hs_self, ab_hs_hs, sp_made (by decide) (by decide) (H33 _) ab_hs_self k5 bi hT', sp_modulo hmr, e0, e1, ih] <;> omega
      rw [s22_145]
      by_cases c3 : nn - t = ab_FIRST b
      · have er : ab_LV (ab_REST b) = t := by omega
        have hr := ab_lv_r k5
        rw [er] at hr
        have hce := ab_ce_r (K := L 0) (m := nn - t) (c := L 1) (f := L 3) (by omega) (by omega) hL.2.1.1 hL.2.1.2 hL.2.2.2.1 hL.2.2.2.2
        have e0 : 0 ≤ b * 19 + ab_REST b := by omega
        have e1 : b * 19 + ab_REST b < ((361 : Nat) : Int) := by omega
        have f1 : (1 : Int) < ((4 : Nat) : Int) := by omega
        have f3 : (3 : Int) < ((4 : Nat) : Int) := by omega
        have eT : ab_fi (fun j => ab_asy L (ab_AT L) b (j - b * 19)) A1 (b * 19 + ab_START t) (b * 19 + ab_START t + ab_wd t) (b * 19 + ab_REST b) = ab_asy L (ab_AT L) b (ab_REST b) := by
          rw [ab_fi_lo (by omega), show b * 19 + ab_REST b - b * 19 = ab_REST b by omega]
        have fin : ab_ui (ab_fi (fun j => ab_asy L (ab_AT L) b (j - b * 19)) A1 (b * 19 + ab_START t) (b * 19 + ab_START t + ab_wd t)) (b * 19 + ab_REST b) ((ab_asy L (ab_AT L) b (ab_REST b) + ab_ce (L 0) (nn - t) (L 1) (L 3)) % 101) = ab_fi (ab_AT L) A (b * 19 + ab_START t) (b * 19 + ab_START t + ab_wd t) := by
          refine ab_fi_ext (fun j j0 j1 => ?_) (fun j hj => ?_)
          · obtain ⟨h1, h2⟩ := hAT j j0 j1
            rw [h1, ab_asx, if_neg c1, h2, hnn, if_neg c2]
            by_cases e : j = b * 19 + ab_REST b
            · rw [e, ab_ui_at, if_pos ⟨c3, by omega⟩, show b * 19 + ab_REST b - b * 19 = ab_REST b by omega]
            · rw [ab_ui_ne e, ab_fi_lo ⟨j0, j1⟩, if_neg (by omega)]
          · rw [ab_ui_ne (by omega), ab_fi_no hj, hout _ hj]
        have ra := ab_asy_r (L := L) (A := ab_AT L) (b := b) (c := ab_REST b)
        have hmr : ab_inR (ab_asy L (ab_AT L) b (ab_REST b) + ab_ce (L 0) (nn - t) (L 1) (L 3)) := by omega
        simp only [s22_147, s22_150, s22_151, s22_152, s22_153, s22_154, s22_200, s22_202, s22_204, s22_207, s22_209, s22_211, s22_212, s22_215, s22_216, s22_217, s22_218, s22_221, s22_222, true_and, and_true, true_implies, Option.toList_some, Option.toList_none, List.nil_append, List.cons_append, List.map_nil, List.map_cons, List.sum_nil, List.sum_cons, Nat.zero_le, ab_nl_n, ab_nl_i, ab_nl_r, ab_nl_0, ab_cat_i, ab_cat_r, ab_cat_l, Nat.reduceAdd, Nat.reduceLeDiff, Nat.add_zero, Nat.zero_add, reduceIte, List.getElem?_cons_succ, List.getElem?_cons_zero, List.length_cons, List.length_nil, List.set_cons_zero, List.set_cons_succ, true_or, or_true, Classical.not_not, not_true_eq_false, not_false_eq_true, ab_01r, ab_01z, ab_01n, false_implies, ab_tt, Nat.reduceLT, Nat.reduceEqDiff, Int.reduceNeg, Int.reduceLT, Int.reduceLE, Int.add_zero, Int.zero_add, List.append_nil, Int.reduceEq, ab_sum1, ab_ri_0, ab_ri_1, ab_ri_2, ab_ri_3, ab_ri_4, ab_ri_5, ab_ri_6, ab_ri_7, ab_ri_8, ab_ri_12, ab_ri_30, ab_ri_60, ab_ri_100, ab_ri_101, ab_ri_127, ab_ri_m1, ab_ri_m2, ab_ri_m3, ab_ri_m4, ab_ri_m5, ab_ri_m11, ab_ri_m13, ab_ri_m14, ab_ri_10, ab_fd, ab_ai, (HS _).1, H33, H40, w8, w9, hw.1, Int.le_refl, Int.lt_irrefl, c3, f1, f3, Int.reduceLE]
        rw [← c3]
        (repeat refine And.intro (by omega) ?_)
        refine cs_centre_fillActs hL.1 (ab_knd_at (HK _) hL.1) (by omega) (by decide) (by omega) (by omega) hL.2.1.1 hL.2.1.2 hL.2.2.2.1 hL.2.2.2.2 ?_
        simp only [s22_226, s22_228, s22_229, s22_232, s22_234, s22_236, s22_237, s22_238, s22_241, s22_243, s22_245, s22_246, s22_247, s22_249, s22_250, s22_253, s22_254, true_and, and_true, true_implies, Option.toList_some, Option.toList_none, List.nil_append, List.cons_append, List.map_nil, List.map_cons, List.sum_nil, List.sum_cons, Nat.zero_le, ab_nl_n, ab_nl_i, ab_nl_r, ab_nl_0, ab_cat_i, ab_cat_r, ab_cat_l, Nat.reduceAdd, Nat.reduceLeDiff, Nat.add_zero, Nat.zero_add, reduceIte, List.getElem?_cons_succ, List.getElem?_cons_zero, List.length_cons, List.length_nil, List.set_cons_zero, List.set_cons_succ, true_or, or_true, Classical.not_not, not_true_eq_false, not_false_eq_true, ab_01r, ab_01z, ab_01n, false_implies, ab_tt, Nat.reduceLT, Nat.reduceEqDiff, Int.reduceNeg, Int.reduceLT, Int.reduceLE, Int.add_zero, Int.zero_add, List.append_nil, Int.reduceEq, ab_sum1, ab_ri_0, ab_ri_1, ab_ri_2, ab_ri_3, ab_ri_4, ab_ri_5, ab_ri_6, ab_ri_7, ab_ri_8, ab_ri_12, ab_ri_30, ab_ri_60, ab_ri_100, ab_ri_101, ab_ri_127, ab_ri_m1, ab_ri_m2, ab_ri_m3, ab_ri_m4, ab_ri_m5, ab_ri_m11, ab_ri_m13, ab_ri_m14, ab_ri_10, ab_fd, ab_ai, ab_as, H33, ab_hs_self, ab_hs_hs, e0, e1, eT, sp_modulo hmr, fin, q] <;> omega
      · have fin : ab_fi (fun j => ab_asy L (ab_AT L) b (j - b * 19)) A1 (b * 19 + ab_START t) (b * 19 + ab_START t + ab_wd t) = ab_fi (ab_AT L) A (b * 19 + ab_START t) (b * 19 + ab_START t + ab_wd t) := by
          refine ab_fi_ext (fun j j0 j1 => ?_) (fun j hj => ?_)
          · obtain ⟨h1, h2⟩ := hAT j j0 j1
            rw [h1, ab_asx, if_neg c1, h2, hnn, if_neg c2, ab_fi_lo ⟨j0, j1⟩, if_neg (fun z => c3 z.1)]
          · rw [ab_fi_no hj, hout _ hj]
        simp only [s22_147, s22_150, s22_151, s22_152, s22_153, s22_154, s22_200, s22_202, s22_204, s22_254, true_and, and_true, true_implies, Option.toList_some, Option.toList_none, List.nil_append, List.cons_append, List.map_nil, List.map_cons, List.sum_nil, List.sum_cons, Nat.zero_le, ab_nl_n, ab_nl_i, ab_nl_r, ab_nl_0, ab_cat_i, ab_cat_r, ab_cat_l, Nat.reduceAdd, Nat.reduceLeDiff, Nat.add_zero, Nat.zero_add, reduceIte, List.getElem?_cons_succ, List.getElem?_cons_zero, List.length_cons, List.length_nil, List.set_cons_zero, List.set_cons_succ, true_or, or_true, Classical.not_not, not_true_eq_false, not_false_eq_true, ab_01r, ab_01z, ab_01n, false_implies, ab_tt, Nat.reduceLT, Nat.reduceEqDiff, Int.reduceNeg, Int.reduceLT, Int.reduceLE, Int.add_zero, Int.zero_add, List.append_nil, Int.reduceEq, ab_sum1, ab_ri_0, ab_ri_1, ab_ri_2, ab_ri_3, ab_ri_4, ab_ri_5, ab_ri_6, ab_ri_7, ab_ri_8, ab_ri_12, ab_ri_30, ab_ri_60, ab_ri_100, ab_ri_101, ab_ri_127, ab_ri_m1, ab_ri_m2, ab_ri_m3, ab_ri_m4, ab_ri_m5, ab_ri_m11, ab_ri_m13, ab_ri_m14, ab_ri_10, ab_ai, (HS _).1, w8, w9, hw.1, Int.le_refl, Int.lt_irrefl, c3, fin, q] <;> omega
end LD4
