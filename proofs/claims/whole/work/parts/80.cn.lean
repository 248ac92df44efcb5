/-! ===== the model's constructor: its loop ===== -/
theorem ab_tb_o {l : List Int} {j : Int} (h : (l.length : Int) ≤ j) : ab_tb l j = 0 := by
  unfold ab_tb
  rw [List.getD_eq_getElem?_getD, List.getElem?_eq_none (by omega)]
  rfl
theorem ab_tb_m {l : List Int} {j : Int} (h : j < 0) : ab_tb (0 :: l) j = 0 := by
  unfold ab_tb
  rw [show j.toNat = 0 by omega]
  rfl
theorem ab_pf_0 {l : List Int} : ab_pf (ab_tb (0 :: l)) 0 = fun _ => 0 := by
  funext j
  unfold ab_pf
  by_cases c : j < 0
  · rw [if_pos c, ab_tb_m c]
  · rw [if_neg c]
theorem ab_pf_all {l : List Int} {m : Int} (h : m = (l.length : Int)) : ab_pf (ab_tb l) m = ab_tb l := by
  funext j
  unfold ab_pf
  by_cases c : j < m
  · rw [if_pos c]
  · rw [if_neg c, ab_tb_o (by omega)]
section CN
variable {h : ab_H} {n : Nat} {Q : ab_Q} {σ : Nat → Int}
theorem mp_fol {b : Int} (b0 : 0 ≤ b) (b1 : b < 19) (hs : b ≠ 0 ∧ b ≠ 1 ∧ b ≠ 2 ∧ b ≠ 4 ∧ b ≠ 7 ∧ b ≠ 12) (hmo : h 68 = some (ab_mo σ)) (h72 : h 72 = some (ab_ia 19 (ab_pf ab_LENGTH b))) (h73 : h 73 = some (ab_ia 95 (ab_pf ab_NUM (5 * b)))) (q : ∀ h', (∀ a, a ≠ 72 → a ≠ 73 → h' a = h a) → h' 72 = some (ab_ia 19 (ab_pf ab_LENGTH (b + 1))) → h' 73 = some (ab_ia 95 (ab_pf ab_NUM (5 * b + 5))) → Q none h' n) : ab_G 118 0 [some (vr 68), some (vi b), none, none, none] [] h n (0, 0) Q := by
  have hb : b = 3 ∨ b = 5 ∨ b = 6 ∨ b = 8 ∨ b = 9 ∨ b = 10 ∨ b = 11 ∨ b = 13 ∨ b = 14 ∨ b = 15 ∨ b = 16 ∨ b = 17 ∨ b = 18 := by omega
  rcases hb with rfl | rfl | rfl | rfl | rfl | rfl | rfl | rfl | rfl | rfl | rfl | rfl | rfl
  · exact mp_fol_3 hmo h72 h73 q
  · exact mp_fol_5 hmo h72 h73 q
  · exact mp_fol_6 hmo h72 h73 q
  · exact mp_fol_8 hmo h72 h73 q
  · exact mp_fol_9 hmo h72 h73 q
  · exact mp_fol_10 hmo h72 h73 q
  · exact mp_fol_11 hmo h72 h73 q
  · exact mp_fol_13 hmo h72 h73 q
  · exact mp_fol_14 hmo h72 h73 q
  · exact mp_fol_15 hmo h72 h73 q
  · exact mp_fol_16 hmo h72 h73 q
  · exact mp_fol_17 hmo h72 h73 q
  · exact mp_fol_18 hmo h72 h73 q
theorem ab_st_num {m : Int} (m0 : 0 ≤ m) (m5 : m ≤ 5) : ab_NUM (5 * ab_START m) = m ∧ ab_NUM (5 * ab_START m + 1) = 0 ∧ ab_NUM (5 * ab_START m + 1 + 1) = 0 ∧ ab_NUM (5 * ab_START m + 1 + 1 + 1) = 0 ∧ ab_NUM (5 * ab_START m + 1 + 1 + 1 + 1) = 0 ∧ ab_LENGTH (ab_START m) = if m ≤ 0 then 0 else 1 :=
  ab_tb_all (P := fun m => ab_NUM (5 * ab_START m) = m ∧ ab_NUM (5 * ab_START m + 1) = 0 ∧ ab_NUM (5 * ab_START m + 1 + 1) = 0 ∧ ab_NUM (5 * ab_START m + 1 + 1 + 1) = 0 ∧ ab_NUM (5 * ab_START m + 1 + 1 + 1 + 1) = 0 ∧ ab_LENGTH (ab_START m) = if m ≤ 0 then 0 else 1) (m := 6) (by decide +kernel) m0 (by omega)
theorem ab_st_no {m b : Int} (m0 : 0 ≤ m) (m5 : m ≤ 5) (b0 : ab_START m < b) (b1 : b < ab_START (m + 1)) : b ≠ 0 ∧ b ≠ 1 ∧ b ≠ 2 ∧ b ≠ 4 ∧ b ≠ 7 ∧ b ≠ 12 := by
  have hm : m = 0 ∨ m = 1 ∨ m = 2 ∨ m = 3 ∨ m = 4 ∨ m = 5 := by omega
  rcases hm with rfl | rfl | rfl | rfl | rfl | rfl
  · have e0 : ab_START 0 = 0 := rfl
    have e1 : ab_START (0 + 1) = 1 := rfl
    omega
  · have e0 : ab_START 1 = 1 := rfl
    have e1 : ab_START (1 + 1) = 2 := rfl
    omega
  · have e0 : ab_START 2 = 2 := rfl
    have e1 : ab_START (2 + 1) = 4 := rfl
    omega
  · have e0 : ab_START 3 = 4 := rfl
    have e1 : ab_START (3 + 1) = 7 := rfl
    omega
  · have e0 : ab_START 4 = 7 := rfl
    have e1 : ab_START (4 + 1) = 12 := rfl
    omega
  · have e0 : ab_START 5 = 12 := rfl
    have e1 : ab_START (5 + 1) = 19 := rfl
    omega
theorem mp_tab (hmo : h 68 = some (ab_mo σ)) (h70 : h 70 = some (ab_ia 7 ab_START)) (h71 : h 71 = some (ab_ia 19 (fun _ => 0))) (h72 : h 72 = some (ab_ia 19 (fun _ => 0))) (h73 : h 73 = some (ab_ia 95 (fun _ => 0))) (q : ∀ h', (∀ a, a ≠ 71 → a ≠ 72 → a ≠ 73 → h' a = h a) → h' 71 = some (ab_ia 19 ab_LV) → h' 72 = some (ab_ia 19 ab_LENGTH) → h' 73 = some (ab_ia 95 ab_NUM) → Q none h' n) : ab_G 117 251 [some (vr 68), none, none] [] h n (23, 2253) Q := by
  have h6 : ab_inR 6 = True := eq_true (by omega)
  simp only [s117_251, s117_252, true_and, and_true, true_implies, Option.toList_some, Option.toList_none, List.nil_append, List.cons_append, List.map_nil, List.map_cons, List.sum_nil, List.sum_cons, Nat.zero_le, ab_nl_n, ab_nl_i, ab_nl_r, ab_nl_0, ab_cat_i, ab_cat_r, ab_cat_l, Nat.reduceAdd, Nat.reduceLeDiff, Nat.add_zero, Nat.zero_add, reduceIte, List.getElem?_cons_succ, List.getElem?_cons_zero, List.length_cons, List.length_nil, List.set_cons_zero, List.set_cons_succ, true_or, or_true, Classical.not_not, not_true_eq_false, not_false_eq_true, ab_01r, ab_01z, ab_01n, false_implies, ab_tt, Nat.reduceLT, Nat.reduceEqDiff, Int.reduceNeg, Int.reduceLT, Int.reduceLE, Int.add_zero, Int.zero_add, List.append_nil, Int.reduceEq, ab_sum1, ab_ri_0, ab_ri_1, ab_ri_2, ab_ri_3, ab_ri_4, ab_ri_5, ab_ri_6, ab_ri_7, ab_ri_8, ab_ri_12, ab_ri_30, ab_ri_60, ab_ri_100, ab_ri_101, ab_ri_127, ab_ri_m1, ab_ri_m2, ab_ri_m3, ab_ri_m4, ab_ri_m5, ab_ri_m11, ab_ri_m13, ab_ri_m14, ab_ri_10]
  have key := ab_dn (P := fun m => ∀ h' l2, ab_nl [l2] = true → (∀ a, a ≠ 71 → a ≠ 72 → a ≠ 73 → h' a = h a) → h' 71 = some (ab_ia 19 (ab_pf ab_LV (ab_START m))) → h' 72 = some (ab_ia 19 (ab_pf ab_LENGTH (ab_START m))) → h' 73 = some (ab_ia 95 (ab_pf ab_NUM (5 * ab_START m))) → ab_G 117 253 [some (vr 68), some (vi m), l2] [] h' n (23, 2253) Q) (a := 0) (e := 6) (by decide) ?_ ?_
  · refine key h none rfl (fun _ _ _ _ => rfl) ?_ ?_ ?_
    · rw [show ab_START 0 = 0 from rfl, show ab_pf ab_LV 0 = fun _ => 0 from ab_pf_0]
      exact h71
    · rw [show ab_START 0 = 0 from rfl, show ab_pf ab_LENGTH 0 = fun _ => 0 from ab_pf_0]
      exact h72
    · rw [show 5 * ab_START 0 = 0 from rfl, show ab_pf ab_NUM 0 = fun _ => 0 from ab_pf_0]
      exact h73
  · intro h1 l2 z2 e1 m1 m2 m3
    rw [show ab_START 6 = 19 from rfl, show ab_pf ab_LV 19 = ab_LV from ab_pf_all rfl] at m1
    rw [show ab_START 6 = 19 from rfl, show ab_pf ab_LENGTH 19 = ab_LENGTH from ab_pf_all rfl] at m2
    rw [show 5 * ab_START 6 = 95 from rfl, show ab_pf ab_NUM 95 = ab_NUM from ab_pf_all rfl] at m3
    have q := q h1 e1 m1 m2 m3
    rw [s117_253]
    simp only [s117_254, s117_256, s117_339, true_and, and_true, true_implies, Option.toList_some, Option.toList_none, List.nil_append, List.cons_append, List.map_nil, List.map_cons, List.sum_nil, List.sum_cons, Nat.zero_le, ab_nl_n, ab_nl_i, ab_nl_r, ab_nl_0, ab_cat_i, ab_cat_r, ab_cat_l, Nat.reduceAdd, Nat.reduceLeDiff, Nat.add_zero, Nat.zero_add, reduceIte, List.getElem?_cons_succ, List.getElem?_cons_zero, List.length_cons, List.length_nil, List.set_cons_zero, List.set_cons_succ, true_or, or_true, Classical.not_not, not_true_eq_false, not_false_eq_true, ab_01r, ab_01z, ab_01n, false_implies, ab_tt, Nat.reduceLT, Nat.reduceEqDiff, Int.reduceNeg, Int.reduceLT, Int.reduceLE, Int.add_zero, Int.zero_add, List.append_nil, Int.reduceEq, ab_sum1, ab_ri_0, ab_ri_1, ab_ri_2, ab_ri_3, ab_ri_4, ab_ri_5, ab_ri_6, ab_ri_7, ab_ri_8, ab_ri_12, ab_ri_30, ab_ri_60, ab_ri_100, ab_ri_101, ab_ri_127, ab_ri_m1, ab_ri_m2, ab_ri_m3, ab_ri_m4, ab_ri_m5, ab_ri_m11, ab_ri_m13, ab_ri_m14, ab_ri_10, h6, Int.le_refl, q]
  · intro m m0 m9 mh h1 l2 z2 e1 m1 m2 m3
    have hw := ab_wd_eq m0 m9
    have cm : ¬ 6 ≤ m := by omega
    have hmr : ab_inR m = True := eq_true (by omega)
    have m7 : m < ((7 : Nat) : Int) := by omega
    have m70 : 0 ≤ m + 1 := by omega
    have m77 : m + 1 < ((7 : Nat) : Int) := by omega
    have n68 := (e1 68 (by decide) (by decide) (by decide)).trans hmo
    have n70 := (e1 70 (by decide) (by decide) (by decide)).trans h70
    have hsr : ab_inR (ab_START m) = True := eq_true (by omega)
    have hsr1 : ab_inR (ab_START m + ab_wd m) = True := eq_true (by omega)
    rw [s117_253]
    simp only [s117_254, s117_256, s117_259, s117_260, s117_263, s117_264, s117_265, true_and, and_true, true_implies, Option.toList_some, Option.toList_none, List.nil_append, List.cons_append, List.map_nil, List.map_cons, List.sum_nil, List.sum_cons, Nat.zero_le, ab_nl_n, ab_nl_i, ab_nl_r, ab_nl_0, ab_cat_i, ab_cat_r, ab_cat_l, Nat.reduceAdd, Nat.reduceLeDiff, Nat.add_zero, Nat.zero_add, reduceIte, List.getElem?_cons_succ, List.getElem?_cons_zero, List.length_cons, List.length_nil, List.set_cons_zero, List.set_cons_succ, true_or, or_true, Classical.not_not, not_true_eq_false, not_false_eq_true, ab_01r, ab_01z, ab_01n, false_implies, ab_tt, Nat.reduceLT, Nat.reduceEqDiff, Int.reduceNeg, Int.reduceLT, Int.reduceLE, Int.add_zero, Int.zero_add, List.append_nil, Int.reduceEq, ab_sum1, ab_ri_0, ab_ri_1, ab_ri_2, ab_ri_3, ab_ri_4, ab_ri_5, ab_ri_6, ab_ri_7, ab_ri_8, ab_ri_12, ab_ri_30, ab_ri_60, ab_ri_100, ab_ri_101, ab_ri_127, ab_ri_m1, ab_ri_m2, ab_ri_m3, ab_ri_m4, ab_ri_m5, ab_ri_m11, ab_ri_m13, ab_ri_m14, ab_ri_10, ab_fd, ab_fs, ab_ai, ab_as, ab_fit, ab_tyf, tyX12, ab_mg_0, ab_mg_1, ab_mg_2, ab_mg_3, ab_mg_4, ab_mg_5, ab_mg_6, ab_mg_7, ab_mg_8, ab_mg_9, ab_mg_10, ab_mg_11, ab_mg_12, ab_mg_13, ab_mg_14, ab_mg_15, ab_mg_16, ab_mg_17, ab_mg_18, ab_mg_19, ab_mg_20, ab_mg_21, ab_mg_22, ab_mg_23, ab_mg_24, ab_mg_25, ab_mg_26, ab_mg_27, ab_mg_28, ab_mg_29, ab_mg_30, ab_mg_31, ab_mg_32, ab_mg_33, ab_ms_8, ab_ms_10, ab_ms_11, ab_ms_17, ab_ms_21, ab_ms_22, ab_ms_24, ab_ms_25, ab_ms_26, ab_ms_29, ab_ms_32, ab_mol_l, Nat.reduceLT, Nat.reduceLeDiff, n68, n70, h6, hmr, cm, m0, m7, z2]
    have key := ab_dn (P := fun b => ∀ h', (∀ a, a ≠ 71 → a ≠ 72 → a ≠ 73 → h' a = h a) → h' 71 = some (ab_ia 19 (ab_pf ab_LV b)) → h' 72 = some (ab_ia 19 (ab_pf ab_LENGTH b)) → h' 73 = some (ab_ia 95 (ab_pf ab_NUM (5 * b))) → ab_G 117 266 [some (vr 68), some (vi m), some (vi b)] [] h' n (23, 2253) Q) (a := ab_START m) (e := ab_START m + ab_wd m) (by omega) ?_ ?_
    · exact key h1 e1 m1 m2 m3
    · intro h2 e2 m1 m2 m3
      have n68 := (e2 68 (by decide) (by decide) (by decide)).trans hmo
      have n70 := (e2 70 (by decide) (by decide) (by decide)).trans h70
      rw [← hw.1] at m1 m2 m3
      have mh := mh h2 (some (vi (ab_START m + ab_wd m))) rfl e2 m1 m2 m3
      rw [s117_266]
      simp only [s117_267, s117_268, s117_271, s117_272, s117_273, s117_274, s117_275, s117_333, s117_336, true_and, and_true, true_implies, Option.toList_some, Option.toList_none, List.nil_append, List.cons_append, List.map_nil, List.map_cons, List.sum_nil, List.sum_cons, Nat.zero_le, ab_nl_n, ab_nl_i, ab_nl_r, ab_nl_0, ab_cat_i, ab_cat_r, ab_cat_l, Nat.reduceAdd, Nat.reduceLeDiff, Nat.add_zero, Nat.zero_add, reduceIte, List.getElem?_cons_succ, List.getElem?_cons_zero, List.length_cons, List.length_nil, List.set_cons_zero, List.set_cons_succ, true_or, or_true, Classical.not_not, not_true_eq_false, not_false_eq_true, ab_01r, ab_01z, ab_01n, false_implies, ab_tt, Nat.reduceLT, Nat.reduceEqDiff, Int.reduceNeg, Int.reduceLT, Int.reduceLE, Int.add_zero, Int.zero_add, List.append_nil, Int.reduceEq, ab_sum1, ab_ri_0, ab_ri_1, ab_ri_2, ab_ri_3, ab_ri_4, ab_ri_5, ab_ri_6, ab_ri_7, ab_ri_8, ab_ri_12, ab_ri_30, ab_ri_60, ab_ri_100, ab_ri_101, ab_ri_127, ab_ri_m1, ab_ri_m2, ab_ri_m3, ab_ri_m4, ab_ri_m5, ab_ri_m11, ab_ri_m13, ab_ri_m14, ab_ri_10, ab_fd, ab_fs, ab_ai, ab_as, ab_fit, ab_tyf, tyX12, ab_mg_0, ab_mg_1, ab_mg_2, ab_mg_3, ab_mg_4, ab_mg_5, ab_mg_6, ab_mg_7, ab_mg_8, ab_mg_9, ab_mg_10, ab_mg_11, ab_mg_12, ab_mg_13, ab_mg_14, ab_mg_15, ab_mg_16, ab_mg_17, ab_mg_18, ab_mg_19, ab_mg_20, ab_mg_21, ab_mg_22, ab_mg_23, ab_mg_24, ab_mg_25, ab_mg_26, ab_mg_27, ab_mg_28, ab_mg_29, ab_mg_30, ab_mg_31, ab_mg_32, ab_mg_33, ab_ms_8, ab_ms_10, ab_ms_11, ab_ms_17, ab_ms_21, ab_ms_22, ab_ms_24, ab_ms_25, ab_ms_26, ab_ms_29, ab_ms_32, ab_mol_l, Nat.reduceLT, Nat.reduceLeDiff, n68, n70, hw.1, hsr1, m70, m77, Int.le_refl, mh]
    · intro b b0 b9 bh h2 e2 m1 m2 m3
      have n68 := (e2 68 (by decide) (by decide) (by decide)).trans hmo
      have n70 := (e2 70 (by decide) (by decide) (by decide)).trans h70
      have cb : ¬ ab_START m + ab_wd m ≤ b := by omega
      have hbr : ab_inR b = True := eq_true (by omega)
      have lb : ab_LV b = m := ab_lv_in m0 (by omega) b0 b9
      have x0 : 0 ≤ b := by omega
      have x1 : b < ((19 : Nat) : Int) := by omega
      have y0 : 0 ≤ 5 * b := by omega
      have y1 : 5 * b < ((95 : Nat) : Int) := by omega
      have ul := ab_pf_u (g := ab_LV) (m := b) lb
      have o : ∀ c a, a ≠ 71 → ab_hs h2 71 c a = h2 a := fun c a ha => ab_hs_ne ha
      have o68 : ∀ c, ab_hs h2 71 c 68 = some (ab_mo σ) := fun c => (o c 68 (by decide)).trans n68
      have o70 : ∀ c, ab_hs h2 71 c 70 = some (ab_ia 7 ab_START) := fun c => (o c 70 (by decide)).trans n70
      have o72 : ∀ c, ab_hs h2 71 c 72 = some (ab_ia 19 (ab_pf ab_LENGTH b)) := fun c => (o c 72 (by decide)).trans m2
      have o73 : ∀ c, ab_hs h2 71 c 73 = some (ab_ia 95 (ab_pf ab_NUM (5 * b))) := fun c => (o c 73 (by decide)).trans m3
      rw [s117_266]
      by_cases e : b = ab_START m
      · obtain ⟨u1, u2, u3, u4, u5, u6⟩ := ab_st_num m0 (by omega)
        rw [← e] at u1 u2 u3 u4 u5 u6
        have un : ab_ui (ab_pf ab_NUM (5 * b)) (5 * b) m = ab_pf ab_NUM (5 * (b + 1)) := by
          rw [ab_pf_u u1, ab_pf_z u2, ab_pf_z u3, ab_pf_z u4, ab_pf_z u5, show 5 * b + 1 + 1 + 1 + 1 + 1 = 5 * (b + 1) by omega]
        have uL := ab_pf_u (g := ab_LENGTH) (m := b) u6
        have p68 : ∀ c d, ab_hs (ab_hs h2 71 c) 72 d 68 = some (ab_mo σ) := fun c d => (ab_hs_ne (by decide)).trans (o68 c)
        have p73 : ∀ c d, ab_hs (ab_hs h2 71 c) 72 d 73 = some (ab_ia 95 (ab_pf ab_NUM (5 * b))) := fun c d => (ab_hs_ne (by decide)).trans (o73 c)
        have bh := bh (ab_hs (ab_hs (ab_hs h2 71 (ab_ia 19 (ab_pf ab_LV (b + 1)))) 72 (ab_ia 19 (ab_pf ab_LENGTH (b + 1)))) 73 (ab_ia 95 (ab_pf ab_NUM (5 * (b + 1))))) (fun a a1 a2 a3 => (ab_hs_ne a3).trans ((ab_hs_ne a2).trans ((ab_hs_ne a1).trans (e2 a a1 a2 a3)))) ((ab_hs_ne (by decide)).trans ((ab_hs_ne (by decide)).trans ab_hs_self)) ((ab_hs_ne (by decide)).trans ab_hs_self) ab_hs_self
        have hsb : ab_inR (b + ab_wd m) = True := eq_true (by omega)
        have cbb : ¬ b + ab_wd m ≤ b := by omega
        by_cases z : m ≤ 0
        · rw [if_pos z] at uL
          simp only [s117_267, s117_268, s117_271, s117_272, s117_273, s117_274, s117_275, s117_278, s117_279, s117_282, s117_283, s117_284, s117_285, s117_286, s117_287, s117_290, s117_291, s117_292, s117_295, s117_296, s117_299, s117_300, s117_301, s117_304, s117_305, s117_308, s117_309, s117_310, s117_311, s117_314, s117_315, s117_316, s117_317, s117_318, s117_319, s117_322, s117_323, s117_324, s117_327, s117_330, true_and, and_true, true_implies, Option.toList_some, Option.toList_none, List.nil_append, List.cons_append, List.map_nil, List.map_cons, List.sum_nil, List.sum_cons, Nat.zero_le, ab_nl_n, ab_nl_i, ab_nl_r, ab_nl_0, ab_cat_i, ab_cat_r, ab_cat_l, Nat.reduceAdd, Nat.reduceLeDiff, Nat.add_zero, Nat.zero_add, reduceIte, List.getElem?_cons_succ, List.getElem?_cons_zero, List.length_cons, List.length_nil, List.set_cons_zero, List.set_cons_succ, true_or, or_true, Classical.not_not, not_true_eq_false, not_false_eq_true, ab_01r, ab_01z, ab_01n, false_implies, ab_tt, Nat.reduceLT, Nat.reduceEqDiff, Int.reduceNeg, Int.reduceLT, Int.reduceLE, Int.add_zero, Int.zero_add, List.append_nil, Int.reduceEq, ab_sum1, ab_ri_0, ab_ri_1, ab_ri_2, ab_ri_3, ab_ri_4, ab_ri_5, ab_ri_6, ab_ri_7, ab_ri_8, ab_ri_12, ab_ri_30, ab_ri_60, ab_ri_100, ab_ri_101, ab_ri_127, ab_ri_m1, ab_ri_m2, ab_ri_m3, ab_ri_m4, ab_ri_m5, ab_ri_m11, ab_ri_m13, ab_ri_m14, ab_ri_10, ab_fd, ab_fs, ab_ai, ab_as, ab_fit, ab_tyf, tyX12, ab_mg_0, ab_mg_1, ab_mg_2, ab_mg_3, ab_mg_4, ab_mg_5, ab_mg_6, ab_mg_7, ab_mg_8, ab_mg_9, ab_mg_10, ab_mg_11, ab_mg_12, ab_mg_13, ab_mg_14, ab_mg_15, ab_mg_16, ab_mg_17, ab_mg_18, ab_mg_19, ab_mg_20, ab_mg_21, ab_mg_22, ab_mg_23, ab_mg_24, ab_mg_25, ab_mg_26, ab_mg_27, ab_mg_28, ab_mg_29, ab_mg_30, ab_mg_31, ab_mg_32, ab_mg_33, ab_ms_8, ab_ms_10, ab_ms_11, ab_ms_17, ab_ms_21, ab_ms_22, ab_ms_24, ab_ms_25, ab_ms_26, ab_ms_29, ab_ms_32, ab_mol_l, Nat.reduceLT, Nat.reduceLeDiff, n68, n70, m1, o68, o70, o72, p68, p73, ← e, hw.1, hsr1, hbr, hmr, cb, m0, m7, m70, m77, x0, x1, y0, y1, z, ul, uL, un, bh, hsb, cbb]
        · rw [if_neg z] at uL
          simp only [s117_267, s117_268, s117_271, s117_272, s117_273, s117_274, s117_275, s117_278, s117_279, s117_282, s117_283, s117_284, s117_285, s117_286, s117_287, s117_290, s117_291, s117_292, s117_295, s117_296, s117_299, s117_300, s117_301, s117_304, s117_305, s117_308, s117_309, s117_310, s117_311, s117_314, s117_315, s117_316, s117_317, s117_318, s117_319, s117_322, s117_323, s117_324, s117_327, s117_330, true_and, and_true, true_implies, Option.toList_some, Option.toList_none, List.nil_append, List.cons_append, List.map_nil, List.map_cons, List.sum_nil, List.sum_cons, Nat.zero_le, ab_nl_n, ab_nl_i, ab_nl_r, ab_nl_0, ab_cat_i, ab_cat_r, ab_cat_l, Nat.reduceAdd, Nat.reduceLeDiff, Nat.add_zero, Nat.zero_add, reduceIte, List.getElem?_cons_succ, List.getElem?_cons_zero, List.length_cons, List.length_nil, List.set_cons_zero, List.set_cons_succ, true_or, or_true, Classical.not_not, not_true_eq_false, not_false_eq_true, ab_01r, ab_01z, ab_01n, false_implies, ab_tt, Nat.reduceLT, Nat.reduceEqDiff, Int.reduceNeg, Int.reduceLT, Int.reduceLE, Int.add_zero, Int.zero_add, List.append_nil, Int.reduceEq, ab_sum1, ab_ri_0, ab_ri_1, ab_ri_2, ab_ri_3, ab_ri_4, ab_ri_5, ab_ri_6, ab_ri_7, ab_ri_8, ab_ri_12, ab_ri_30, ab_ri_60, ab_ri_100, ab_ri_101, ab_ri_127, ab_ri_m1, ab_ri_m2, ab_ri_m3, ab_ri_m4, ab_ri_m5, ab_ri_m11, ab_ri_m13, ab_ri_m14, ab_ri_10, ab_fd, ab_fs, ab_ai, ab_as, ab_fit, ab_tyf, tyX12, ab_mg_0, ab_mg_1, ab_mg_2, ab_mg_3, ab_mg_4, ab_mg_5, ab_mg_6, ab_mg_7, ab_mg_8, ab_mg_9, ab_mg_10, ab_mg_11, ab_mg_12, ab_mg_13, ab_mg_14, ab_mg_15, ab_mg_16, ab_mg_17, ab_mg_18, ab_mg_19, ab_mg_20, ab_mg_21, ab_mg_22, ab_mg_23, ab_mg_24, ab_mg_25, ab_mg_26, ab_mg_27, ab_mg_28, ab_mg_29, ab_mg_30, ab_mg_31, ab_mg_32, ab_mg_33, ab_ms_8, ab_ms_10, ab_ms_11, ab_ms_17, ab_ms_21, ab_ms_22, ab_ms_24, ab_ms_25, ab_ms_26, ab_ms_29, ab_ms_32, ab_mol_l, Nat.reduceLT, Nat.reduceLeDiff, n68, n70, m1, o68, o70, o72, p68, p73, ← e, hw.1, hsr1, hbr, hmr, cb, m0, m7, m70, m77, x0, x1, y0, y1, z, ul, uL, un, bh, hsb, cbb]
      · have ne : ¬ b = ab_START m := e
        have no := ab_st_no (m := m) (b := b) m0 (by omega) (by omega) (by omega)
        simp only [s117_267, s117_268, s117_271, s117_272, s117_273, s117_274, s117_275, s117_278, s117_279, s117_282, s117_283, s117_284, s117_285, s117_286, s117_287, s117_290, s117_291, s117_292, s117_295, s117_296, s117_299, s117_300, s117_301, s117_304, s117_305, s117_308, s117_309, s117_310, s117_311, s117_314, s117_315, s117_316, s117_317, s117_318, s117_319, s117_322, s117_323, s117_324, true_and, and_true, true_implies, Option.toList_some, Option.toList_none, List.nil_append, List.cons_append, List.map_nil, List.map_cons, List.sum_nil, List.sum_cons, Nat.zero_le, ab_nl_n, ab_nl_i, ab_nl_r, ab_nl_0, ab_cat_i, ab_cat_r, ab_cat_l, Nat.reduceAdd, Nat.reduceLeDiff, Nat.add_zero, Nat.zero_add, reduceIte, List.getElem?_cons_succ, List.getElem?_cons_zero, List.length_cons, List.length_nil, List.set_cons_zero, List.set_cons_succ, true_or, or_true, Classical.not_not, not_true_eq_false, not_false_eq_true, ab_01r, ab_01z, ab_01n, false_implies, ab_tt, Nat.reduceLT, Nat.reduceEqDiff, Int.reduceNeg, Int.reduceLT, Int.reduceLE, Int.add_zero, Int.zero_add, List.append_nil, Int.reduceEq, ab_sum1, ab_ri_0, ab_ri_1, ab_ri_2, ab_ri_3, ab_ri_4, ab_ri_5, ab_ri_6, ab_ri_7, ab_ri_8, ab_ri_12, ab_ri_30, ab_ri_60, ab_ri_100, ab_ri_101, ab_ri_127, ab_ri_m1, ab_ri_m2, ab_ri_m3, ab_ri_m4, ab_ri_m5, ab_ri_m11, ab_ri_m13, ab_ri_m14, ab_ri_10, ab_fd, ab_fs, ab_ai, ab_as, ab_fit, ab_tyf, tyX12, ab_mg_0, ab_mg_1, ab_mg_2, ab_mg_3, ab_mg_4, ab_mg_5, ab_mg_6, ab_mg_7, ab_mg_8, ab_mg_9, ab_mg_10, ab_mg_11, ab_mg_12, ab_mg_13, ab_mg_14, ab_mg_15, ab_mg_16, ab_mg_17, ab_mg_18, ab_mg_19, ab_mg_20, ab_mg_21, ab_mg_22, ab_mg_23, ab_mg_24, ab_mg_25, ab_mg_26, ab_mg_27, ab_mg_28, ab_mg_29, ab_mg_30, ab_mg_31, ab_mg_32, ab_mg_33, ab_ms_8, ab_ms_10, ab_ms_11, ab_ms_17, ab_ms_21, ab_ms_22, ab_ms_24, ab_ms_25, ab_ms_26, ab_ms_29, ab_ms_32, ab_mol_l, Nat.reduceLT, Nat.reduceLeDiff, ab_vc, ab_sv_12_82, n68, n70, m1, o68, o70, hw.1, hsr, hsr1, hbr, cb, m0, m7, m70, m77, x0, x1, ul, ne]
        refine mp_fol x0 (by omega) no (o68 _) (o72 _) (o73 _) fun h3 e3 w2 w3 => ?_
        rw [show 5 * b + 5 = 5 * (b + 1) by omega] at w3
        have bh := bh h3 (fun a a1 a2 a3 => (e3 a a2 a3).trans ((ab_hs_ne a1).trans (e2 a a1 a2 a3))) ((e3 71 (by decide) (by decide)).trans ab_hs_self) w2 w3
        simp only [s117_327, s117_330, true_and, and_true, true_implies, Option.toList_some, Option.toList_none, List.nil_append, List.cons_append, List.map_nil, List.map_cons, List.sum_nil, List.sum_cons, Nat.zero_le, ab_nl_n, ab_nl_i, ab_nl_r, ab_nl_0, ab_cat_i, ab_cat_r, ab_cat_l, Nat.reduceAdd, Nat.reduceLeDiff, Nat.add_zero, Nat.zero_add, reduceIte, List.getElem?_cons_succ, List.getElem?_cons_zero, List.length_cons, List.length_nil, List.set_cons_zero, List.set_cons_succ, true_or, or_true, Classical.not_not, not_true_eq_false, not_false_eq_true, ab_01r, ab_01z, ab_01n, false_implies, ab_tt, Nat.reduceLT, Nat.reduceEqDiff, Int.reduceNeg, Int.reduceLT, Int.reduceLE, Int.add_zero, Int.zero_add, List.append_nil, Int.reduceEq, ab_sum1, ab_ri_0, ab_ri_1, ab_ri_2, ab_ri_3, ab_ri_4, ab_ri_5, ab_ri_6, ab_ri_7, ab_ri_8, ab_ri_12, ab_ri_30, ab_ri_60, ab_ri_100, ab_ri_101, ab_ri_127, ab_ri_m1, ab_ri_m2, ab_ri_m3, ab_ri_m4, ab_ri_m5, ab_ri_m11, ab_ri_m13, ab_ri_m14, ab_ri_10, bh]
end CN
